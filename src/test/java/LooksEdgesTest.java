/** The boundary cases of promises 10 to 12. */
public final class LooksEdgesTest {
    private static final Checks is = new Checks();
    private static final int BIG = Checks.BIG, SMALL = Checks.SMALL;
    private static final String EIGHT = "1,1;1,1;1,1;1,1;1,1;1,1;1,1;1,1";

    public static void main(String[] args) {
        ofNumbersThatAreNotThere();
        ofNoOtherWhat();
        ofIsolatorAndKeeper1Or0();
        ofEachState();
        ofSetsFromNoneToAll();
        ofTicksLeftAndPlaceWhenNone();
        ofThePlacesFrom0To7();
        ofNoiseThatAnotherReads();
        countOfNoOtherWhat();
        countOfNoneAndOfAll();
        countOfTheRisingLoad();
        countOfTheGreatestBehindATick();
        countOfThePad();
        countOfTheUndos();
        waitingWhenNobodyWaits();
        waitingFrom0To7();
        is.end();
    }

    /** 0 and 5 awake, 1 falling, 2 and 6 asleep, 3 waiting, 4 rising; 5 and 6 have an isolator. */
    private static SleepingIslands oneOfEachState() {
        SleepingIslands x = Checks.chip("1,1;1,2;1,3;1,20;9,1;i1,1;i1,1");
        for (int island = 0; island < 6; island++) {
            x.value(island, 10 + island);
        }
        x.sleep(2);
        x.sleep(3);
        x.sleep(4);
        x.sleep(6);
        x.pass(1);
        Checks.wake(x, 4, 3);
        x.pass(1);
        x.sleep(1);
        return x;
    }

    private static void ofNumbersThatAreNotThere() {
        for (int islands = 0; islands <= 8; islands++) {
            SleepingIslands x = new SleepingIslands();
            for (int number = 0; number < islands; number++) {
                x.build(false, false, 1, 1);
            }
            int[] none = {islands, islands + 1, islands + 8, 32, -1, BIG, SMALL};
            for (int n : none) {
                is.due("10: of(" + n + ", 0) of " + islands, x.of(n, 0), -1);
                is.due("10: of(" + n + ", 12) of " + islands, x.of(n, 12), -1);
                is.due("10: of(" + n + ", 13) of " + islands, x.of(n, 13), -1);
            }
            if (islands > 0) {
                is.due("10: of(0, 5) of " + islands, x.of(0, 5), 1);
                is.due("10: of(last, 5) of " + islands, x.of(islands - 1, 5), 1);
            }
        }
    }

    private static void ofNoOtherWhat() {
        SleepingIslands x = Checks.chip("ik9,20");
        int[] bad = {-1, 13, 14, 256, BIG, SMALL};
        for (int b : bad) {
            is.due("10: of(0, " + b + ")", x.of(0, b), -2);
        }
        is.due("10: of(0, 0): the first one", x.of(0, 0), 0);
        is.due("10: of(0, 12): the last one", x.of(0, 12), 0);
    }

    private static void ofIsolatorAndKeeper1Or0() {
        for (int which = 0; which < 4; which++) {
            SleepingIslands x = new SleepingIslands();
            x.build(false, false, 1, 1);
            x.build((which & 1) == 1, which > 1, 1, 1);
            x.build(true, true, 1, 1);
            is.due("10: of(1, 3) of " + which, x.of(1, 3), which & 1);
            is.due("10: of(1, 4) of " + which, x.of(1, 4), which >> 1);
            is.due("10: of(0, 3)", x.of(0, 3), 0);
            is.due("10: of(0, 4)", x.of(0, 4), 0);
            is.due("10: of(2, 3)", x.of(2, 3), 1);
            is.due("10: of(2, 4)", x.of(2, 4), 1);
        }
    }

    private static void ofEachState() {
        SleepingIslands x = oneOfEachState();
        int[] states = {0, 1, 2, 3, 4, 0, 2};
        int[] tells = {10, 11, 255, 255, 255, 15, 0};
        int[] values = {10, 11, 0, 0, 0, 15, 0};
        int[] left = {0, 0, 0, 0, 9, 0, 0};
        int[] places = {-6, -6, -6, 0, -6, -6, -6};
        for (int island = 0; island < 7; island++) {
            is.due("10: of(" + island + ", 0)", x.of(island, 0), states[island]);
            is.due("10: of(" + island + ", 1)", x.of(island, 1), values[island]);
            is.due("10: of(" + island + ", 9)", x.of(island, 9), tells[island]);
            is.due("10: of(" + island + ", 10)", x.of(island, 10), left[island]);
            is.due("10: of(" + island + ", 11)", x.of(island, 11), places[island]);
        }
        x.sleep(5);
        is.due("10: of(5, 9): a falling one tells through its isolator", x.of(5, 9), 15);
        x.wake(6);
        is.due("10: of(6, 9): waiting behind an isolator", x.of(6, 9), 0);
        x.pass(1);
        is.due("10: of(6, 0)", x.of(6, 0), 4);
        is.due("10: of(6, 9): rising behind an isolator", x.of(6, 9), 0);
        is.due("10: of(5, 9): asleep behind an isolator", x.of(5, 9), 0);
    }

    private static void ofSetsFromNoneToAll() {
        SleepingIslands x = Checks.chip(EIGHT);
        for (int other = 1; other < 8; other++) {
            x.link(0, other, true);
            x.link(other, 0, true);
        }
        is.due("10: of(0, 7): all others", x.of(0, 7), 254);
        is.due("10: of(0, 8): all others", x.of(0, 8), 254);
        is.due("10: of(7, 7): the first", x.of(7, 7), 1);
        is.due("10: of(7, 8): the first", x.of(7, 8), 1);
        x.link(0, 7, false);
        is.due("10: of(7, 8): none", x.of(7, 8), 0);
        x.link(7, 0, false);
        is.due("10: of(7, 7): none", x.of(7, 7), 0);
    }

    private static void ofTicksLeftAndPlaceWhenNone() {
        SleepingIslands x = Checks.chip("9,1");
        is.due("10: of(0, 10) awake", x.of(0, 10), 0);
        is.due("10: of(0, 11) awake", x.of(0, 11), -6);
        x.sleep(0);
        is.due("10: of(0, 10) falling", x.of(0, 10), 0);
        is.due("10: of(0, 11) falling", x.of(0, 11), -6);
        x.pass(1);
        is.due("10: of(0, 10) asleep", x.of(0, 10), 0);
        is.due("10: of(0, 11) asleep", x.of(0, 11), -6);
        x.wake(0);
        is.due("10: of(0, 10) waiting", x.of(0, 10), 0);
        is.due("10: of(0, 11) waiting", x.of(0, 11), 0);
        x.pass(1);
        is.due("10: of(0, 10) rising", x.of(0, 10), 9);
        is.due("10: of(0, 11) rising", x.of(0, 11), -6);
        x.pass(9);
        is.due("10: of(0, 10) awake again", x.of(0, 10), 0);
        is.due("10: of(0, 11) awake again", x.of(0, 11), -6);
    }

    private static void ofThePlacesFrom0To7() {
        SleepingIslands x = Checks.asleep(EIGHT, 0, 1, 2, 3, 4, 5, 6, 7);
        Checks.wake(x, 7, 6, 5, 4, 3, 2, 1, 0);
        for (int island = 0; island < 8; island++) {
            is.due("10: of(" + island + ", 11)", x.of(island, 11), 7 - island);
        }
    }

    private static void ofNoiseThatAnotherReads() {
        SleepingIslands x = Checks.asleep("1,1;1,1>0;1,1", 0);
        x.pass(200);
        is.due("10: of(1, 12): it read it", x.of(1, 12), 200);
        is.due("10: of(0, 12): it made it", x.of(0, 12), 0);
        is.due("10: of(2, 12): it has nothing to do with it", x.of(2, 12), 0);
    }

    private static void countOfNoOtherWhat() {
        SleepingIslands x = new SleepingIslands();
        int[] bad = {-1, 14, 15, 256, BIG, SMALL};
        for (int b : bad) {
            is.due("11: count(" + b + ")", x.count(b), -2);
        }
        is.due("11: count(0): the first one", x.count(0), 0);
        x.set(0, 1);
        is.due("11: count(13): the last one", x.count(13), 1);
    }

    private static void countOfNoneAndOfAll() {
        SleepingIslands x = Checks.chip(EIGHT);
        x.set(0, 8);
        int[][] due = {{8, 255, 0, 0, 0}, {8, 0, 0, 0, 0}, {8, 0, 255, 0, 0}, {8, 0, 0, 255, 0}, {8, 0, 0, 0, 255}, {8, 255, 0, 0, 0}};
        for (int step = 0; step < due.length; step++) {
            for (int what = 0; what < 5; what++) {
                is.due("11: count(" + what + ") in step " + step, x.count(what), due[step][what]);
            }
            for (int island = 0; island < 8; island++) {
                if (step == 0) {
                    x.sleep(island);
                } else if (step == 2) {
                    x.wake(island);
                }
            }
            if (step == 1 || step > 2) {
                x.pass(1);
            }
        }
    }

    private static void countOfTheRisingLoad() {
        SleepingIslands x = Checks.asleep("1,20;1,20;1,20", 0, 1, 2);
        x.set(0, 60);
        Checks.wake(x, 0, 1, 2);
        is.due("11: count(5): nobody rises", x.count(5), 0);
        x.pass(1);
        is.due("11: count(5): all of CURRENT", x.count(5), 60);
        is.due("11: count(6): all of CURRENT", x.count(6), 60);
        x.pass(1);
        is.due("11: count(5): all are awake", x.count(5), 0);
        is.due("11: count(6): it stays", x.count(6), 60);
        x.set(0, 1);
        x.sleep(0);
        x.pass(1);
        x.wake(0);
        x.pass(1);
        is.due("11: count(5): one alone above CURRENT", x.count(5), 20);
        is.due("11: count(6): less is not greater", x.count(6), 60);
    }

    private static void countOfTheGreatestBehindATick() {
        SleepingIslands x = Checks.asleep("1,7;1,8", 0, 1);
        Checks.wake(x, 0);
        is.due("11: count(6) ahead of the tick", x.count(6), 0);
        x.pass(1);
        is.due("11: count(6) behind the tick", x.count(6), 7);
        x.wake(1);
        x.pass(1);
        is.due("11: count(6): 7 is awake when 8 rises", x.count(6), 8);
        x.undo();
        is.due("11: count(6) undone", x.count(6), 7);
    }

    private static void countOfThePad() {
        SleepingIslands x = new SleepingIslands();
        for (int length = 0; length <= 64; length++) {
            is.due("11: count(12)", x.count(12), length);
            is.due("11: put of character " + (length + 1), x.put('1'), length < 64 ? length + 1 : -4);
        }
        is.due("11: count(12) of the full pad", x.count(12), 64);
        is.due("11: count(13): the pad is no change", x.count(13), 0);
    }

    private static void countOfTheUndos() {
        SleepingIslands x = new SleepingIslands();
        for (int changes = 0; changes <= 9; changes++) {
            is.due("11: count(13) behind " + changes + " changes", x.count(13), Math.min(changes, 6));
            x.set(1, 0);
        }
    }

    private static void waitingWhenNobodyWaits() {
        int[] places = {0, 1, 7, 8, -1, BIG, SMALL};
        SleepingIslands none = new SleepingIslands();
        SleepingIslands awake = Checks.chip(EIGHT);
        SleepingIslands rising = Checks.asleep("9,1;9,1", 0, 1);
        Checks.wake(rising, 1, 0);
        is.due("12: waiting(0) ahead of the tick", rising.waiting(0), 1);
        rising.pass(1);
        for (int place : places) {
            is.due("12: waiting(" + place + ") without islands", none.waiting(place), -1);
            is.due("12: waiting(" + place + ") when all are awake", awake.waiting(place), -1);
            is.due("12: waiting(" + place + ") when all rise", rising.waiting(place), -1);
        }
    }

    private static void waitingFrom0To7() {
        SleepingIslands x = Checks.asleep(EIGHT, 0, 1, 2, 3, 4, 5, 6, 7);
        for (int many = 0; many < 8; many++) {
            is.due("12: waiting(" + many + ") when so many wait", x.waiting(many), -1);
            x.wake(7 - many);
            is.due("12: waiting(" + many + ") when one more waits", x.waiting(many), 7 - many);
            is.due("12: waiting(0)", x.waiting(0), 7);
        }
        int[] none = {8, 9, 32, 256, -1, -8, BIG, SMALL};
        for (int n : none) {
            is.due("12: waiting(" + n + ") of eight", x.waiting(n), -1);
        }
    }
}
