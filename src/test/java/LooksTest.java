/** Promises 10 to 12: of, count, waiting. */
public final class LooksTest {
    private static final Checks is = new Checks();
    private static final int BIG = Integer.MAX_VALUE, SMALL = Integer.MIN_VALUE;

    public static void main(String[] args) {
        of();
        ofFails();
        count();
        countsThatGrow();
        greatestBehindATick();
        countFails();
        waiting();
        is.end();
    }

    /** 0 awake, 1 falling, 2 asleep, 3 waiting, 4 rising; 5 waits behind 3. */
    private static SleepingIslands oneOfEachState() {
        SleepingIslands x = Checks.chip("1,1>4>2>3;1,2;ik1,3;k1,20>0;9,4;i1,20>0>1");
        x.value(1, 77);
        x.value(2, 21);
        x.value(3, 33);
        for (int island = 2; island < 6; island++) {
            x.sleep(island);
        }
        x.pass(1);
        x.wake(4);
        x.pass(1);
        x.wake(3);
        x.wake(5);
        x.pass(2);
        x.sleep(1);
        return x;
    }

    private static void of() {
        SleepingIslands x = oneOfEachState();
        int[][] due = {
            {0, 48, 0, 0, 0, 1, 1, 28, 40, 48, 0, -6, 6},
            {1, 77, 0, 0, 0, 1, 2, 0, 32, 77, 0, -6, 0},
            {2, 0, 21, 1, 1, 1, 3, 0, 1, 0, 0, -6, 0},
            {3, 0, 33, 0, 1, 1, 20, 1, 1, 255, 0, 0, 0},
            {4, 0, 0, 0, 0, 9, 4, 0, 1, 255, 7, -6, 0},
            {3, 0, 0, 1, 0, 1, 20, 3, 0, 0, 0, 1, 0}};
        // 0 was told 54 while 2 and 3 were falling, and 255 six times since: by 3 and 4 in three ticks.
        for (int island = 0; island < 6; island++) {
            for (int what = 0; what < 13; what++) {
                is.due("10: of(" + island + ", " + what + ")", x.of(island, what), due[island][what]);
            }
        }
    }

    private static void ofFails() {
        SleepingIslands x = oneOfEachState();
        String before = Checks.look(x);
        int[] none = {6, 7, 8, -1, BIG, SMALL};
        for (int n : none) {
            is.due("10: of(" + n + ", 0)", x.of(n, 0), -1);
            is.due("10: of(" + n + ", 13): no island ahead of a bad value", x.of(n, 13), -1);
        }
        int[] bad = {13, -1, BIG, SMALL};
        for (int b : bad) {
            is.due("10: of(0, " + b + ")", x.of(0, b), -2);
        }
        is.same("10: of", before, x);
        is.due("10: count(13): of is no change", x.count(13), 6);
    }

    private static void count() {
        SleepingIslands x = oneOfEachState();
        int[] due = {6, 1, 4, 40, 16, 4, 4, 6, 0, 4, 20, 0, 0, 6};
        for (int what = 0; what < due.length; what++) {
            is.due("11: count(" + what + ")", x.count(what), due[what]);
        }
        x.set(0, 33);
        x.set(1, 1);
        is.due("11: count(10)", x.count(10), 33);
        is.due("11: count(11)", x.count(11), 1);
        Checks.put(x, "abcde");
        is.due("11: count(12)", x.count(12), 5);
        x.undo();
        is.due("11: count(13)", x.count(13), 5);
        is.due("11: count(11) undone", x.count(11), 0);
        is.due("11: count(12) stays", x.count(12), 5);
    }

    private static void countsThatGrow() {
        SleepingIslands x = Checks.chip("1,1;2,2;3,3>0;4,4>0>1");
        x.value(0, 1);
        x.value(1, 255);
        x.sleep(0);
        Checks.sleepFully(x, 1);
        is.due("11: count(8)", x.count(8), 2);
        is.due("11: count(7)", x.count(7), 0);
        x.pass(10);
        is.due("11: count(7) then", x.count(7), 30);
        x.pass(100);
        is.due("11: count(7) at the end", x.count(7), 330);
        is.due("11: count(9)", x.count(9), 111);
        is.due("11: count(8) at the end", x.count(8), 2);
        is.due("11: count(6): nobody rose", x.count(6), 0);
    }

    private static void greatestBehindATick() {
        SleepingIslands x = Checks.chip("1,7;1,9;1,4;1,20");
        x.set(0, 60);
        x.sleep(0);
        x.sleep(1);
        Checks.sleepFully(x, 2);
        x.wake(0);
        x.wake(1);
        is.due("11: count(6): waiting is no load", x.count(6), 0);
        x.pass(1);
        is.due("11: count(5)", x.count(5), 16);
        is.due("11: count(6)", x.count(6), 16);
        x.wake(2);
        x.pass(1);
        is.due("11: count(5): 7 and 9 are awake ahead of the 4", x.count(5), 4);
        is.due("11: count(6) stays", x.count(6), 16);
        Checks.sleepFully(x, 3);
        x.wake(3);
        x.pass(3);
        is.due("11: count(5): a tick in the midst counts", x.count(5), 0);
        is.due("11: count(6) grew", x.count(6), 20);
        x.undo();
        is.due("11: count(6) undone", x.count(6), 16);
    }

    private static void countFails() {
        SleepingIslands x = oneOfEachState();
        String before = Checks.look(x);
        int[] bad = {14, -1, BIG, SMALL};
        for (int b : bad) {
            is.due("11: count(" + b + ")", x.count(b), -2);
        }
        is.same("11: count", before, x);
    }

    private static void waiting() {
        SleepingIslands x = oneOfEachState();
        is.due("12: waiting(0)", x.waiting(0), 3);
        is.due("12: waiting(1)", x.waiting(1), 5);
        int[] none = {2, 7, 8, -1, BIG, SMALL};
        for (int n : none) {
            is.due("12: waiting(" + n + ")", x.waiting(n), -1);
        }
        x.set(0, 24);
        x.pass(1);
        is.due("12: waiting(0): 3 rises", x.waiting(0), 5);
        is.due("12: waiting(1) then", x.waiting(1), -1);
        x.wake(1);
        is.due("12: waiting(1): 1 was ordered behind", x.waiting(1), 1);
        x.wake(2);
        x.pass(1);
        is.due("12: waiting(0): 5 rises, 1 and 2 do not", x.waiting(0), 1);
        is.due("12: waiting(1): 2", x.waiting(1), 2);
        is.due("12: waiting(2)", x.waiting(2), -1);
        is.due("12: of(2, 11)", x.of(2, 11), 1);
    }
}
