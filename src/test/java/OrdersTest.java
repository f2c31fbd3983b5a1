/** Promises 6 to 8: value, sleep, wake. */
public final class OrdersTest {
    private static final Checks is = new Checks();
    private static final int BIG = Integer.MAX_VALUE, SMALL = Integer.MIN_VALUE;

    public static void main(String[] args) {
        value();
        valueFails();
        sleep();
        sleepFails();
        wake();
        wakeFails();
        is.end();
    }

    private static void value() {
        SleepingIslands x = Checks.chip("1,1;1,1");
        is.due("6: value(0, 255)", x.value(0, 255), 0);
        is.due("6: of(0, 1)", x.of(0, 1), 255);
        is.due("6: of(1, 1)", x.of(1, 1), 0);
        is.due("6: value(0, 0)", x.value(0, 0), 255);
        is.due("6: value(0, 0) again", x.value(0, 0), 0);
        is.due("6: count(13)", x.count(13), 4);
        x.undo();
        x.undo();
        is.due("6: of(0, 1) undone", x.of(0, 1), 255);
    }

    private static void valueFails() {
        SleepingIslands x = Checks.chip("i1,1;1,1");
        x.value(0, 9);
        String before = Checks.look(x);
        int[] none = {2, -1, 8, BIG, SMALL, 32};
        for (int n : none) {
            is.due("6: value(" + n + ", 0)", x.value(n, 0), -1);
            is.due("6: value(" + n + ", 256): no island ahead of a bad value", x.value(n, 256), -1);
        }
        int[] bad = {256, -1, BIG, SMALL};
        for (int b : bad) {
            is.due("6: value(0, " + b + ")", x.value(0, b), -2);
        }
        is.same("6: value that fails", before, x);
        x.sleep(0);
        before = Checks.look(x);
        is.due("6: value of a falling one", x.value(0, 1), -5);
        is.due("6: a bad value of a falling one", x.value(0, 256), -2);
        is.same("6: value of a falling one", before, x);
        x.pass(1);
        is.due("6: value of a sleeping one", x.value(0, 1), -5);
        x.wake(0);
        is.due("6: value of a waiting one", x.value(0, 1), -5);
        x.pass(1);
        is.due("6: value of a rising one", x.value(0, 1), -5);
        x.pass(1);
        is.due("6: value of one that is awake again", x.value(0, 1), 0);
    }

    private static void sleep() {
        SleepingIslands x = Checks.chip("1,1;1,1>0;1,1>0>1;1,1>0;1,1>2");
        Checks.sleepFully(x, 3);
        is.due("7: sleep(0): two readers are awake, one is asleep", x.sleep(0), 2);
        is.due("7: of(0, 0)", x.of(0, 0), 1);
        is.due("7: count(1)", x.count(1), 22);
        is.due("7: sleep(4): none reads it", x.sleep(4), 0);
        is.due("7: sleep(2): its only reader falls", x.sleep(2), 0);
        is.due("7: sleep(1): its only reader falls", x.sleep(1), 0);
        x.pass(1);
        is.due("7: count(2)", x.count(2), 31);
        x.undo();
        x.undo();
        is.due("7: of(1, 0) undone", x.of(1, 0), 0);
        is.due("7: of(2, 0) undone", x.of(2, 0), 1);
    }

    private static void sleepFails() {
        SleepingIslands x = Checks.chip("1,1;1,1>0");
        int[] none = {2, -1, 8, BIG, SMALL, 32};
        for (int n : none) {
            is.due("7: sleep(" + n + ")", x.sleep(n), -1);
        }
        is.due("7: count(13)", x.count(13), 1);
        x.sleep(0);
        String before = Checks.look(x);
        is.due("7: sleep of a falling one", x.sleep(0), -5);
        is.same("7: sleep of a falling one", before, x);
        x.pass(1);
        is.due("7: sleep of a sleeping one", x.sleep(0), -5);
        x.wake(0);
        is.due("7: sleep of a waiting one", x.sleep(0), -5);
        x.pass(1);
        is.due("7: sleep of a rising one", x.sleep(0), -5);
        is.due("7: of(0, 10) of it", x.of(0, 10), 1);
        x.pass(1);
        is.due("7: sleep of one that is awake again", x.sleep(0), 1);
    }

    private static void wake() {
        SleepingIslands x = Checks.chip("1,1;1,1;1,1;1,1;1,1;1,1;1,1;1,1");
        for (int island = 0; island < 8; island++) {
            x.sleep(island);
        }
        x.pass(1);
        int[] order = {7, 0, 4, 2, 6, 1, 5, 3};
        for (int place = 0; place < 8; place++) {
            is.due("8: wake(" + order[place] + ")", x.wake(order[place]), place + 1);
        }
        for (int place = 0; place < 8; place++) {
            is.due("8: waiting(" + place + ")", x.waiting(place), order[place]);
            is.due("8: of(" + order[place] + ", 11)", x.of(order[place], 11), place);
        }
        is.due("8: count(3)", x.count(3), 255);
        x.undo();
        is.due("8: count(3) undone", x.count(3), 247);
        is.due("8: waiting(7) undone", x.waiting(7), -1);
        is.due("8: of(3, 0) undone", x.of(3, 0), 2);
        is.due("8: wake(3) anew", x.wake(3), 8);
    }

    private static void wakeFails() {
        SleepingIslands x = Checks.chip("1,1;1,1>0");
        int[] none = {2, -1, 8, BIG, SMALL, 32};
        for (int n : none) {
            is.due("8: wake(" + n + ")", x.wake(n), -1);
        }
        is.due("8: wake of one that is awake", x.wake(0), -5);
        is.due("8: count(13)", x.count(13), 1);
        x.sleep(0);
        is.due("8: wake of a falling one", x.wake(0), -5);
        x.pass(1);
        x.wake(0);
        String before = Checks.look(x);
        is.due("8: wake of a waiting one", x.wake(0), -5);
        is.same("8: wake of a waiting one", before, x);
        x.pass(1);
        is.due("8: wake of a rising one", x.wake(0), -5);
    }
}
