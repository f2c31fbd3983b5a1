/** The boundary cases of promises 6 to 8. */
public final class OrdersEdgesTest {
    private static final Checks is = new Checks();
    private static final int BIG = Checks.BIG, SMALL = Checks.SMALL;
    private static final String EIGHT = "1,1;1,1;1,1;1,1;1,1;1,1;1,1;1,1";

    public static void main(String[] args) {
        valueFrom0To255();
        valueOfTheFirstAndTheLast();
        valueOfOneThatIsNotAwake();
        sleepOfNumbersThatAreNotThere();
        sleepOfEachState();
        sleepIsReadByNoneUpToSeven();
        sleepCountsTheAwakeAlone();
        wakeOfNumbersThatAreNotThere();
        wakeOfEachState();
        wakeOfOneUpToEight();
        wakeBehindAllThatWait();
        is.end();
    }

    /** 0 awake, 1 falling, 2 asleep, 3 waiting, 4 rising; all of them read 5, which is awake. */
    private static SleepingIslands oneOfEachState() {
        SleepingIslands x = Checks.asleep("1,20>5;1,20>5;1,20>5;1,20>5;9,20>5;1,1", 2, 3, 4);
        Checks.wake(x, 4, 3);
        x.pass(1);
        x.sleep(1);
        return x;
    }

    private static void valueFrom0To255() {
        SleepingIslands x = Checks.chip("1,1");
        int previous = 0;
        for (int value = 255; value >= 0; value--) {
            is.due("6: value(0, " + value + ")", x.value(0, value), previous);
            previous = value;
        }
        is.due("6: value(0, 255)", x.value(0, 255), 0);
        int[] bad = {256, -1, 257, 511, 512, BIG, SMALL};
        for (int b : bad) {
            is.due("6: value(0, " + b + ")", x.value(0, b), -2);
            is.due("6: of(0, 1) stays", x.of(0, 1), 255);
        }
        x.value(0, 0);
        is.due("6: value(0, -1) from 0", x.value(0, -1), -2);
        is.due("6: of(0, 1) stays 0", x.of(0, 1), 0);
    }

    private static void valueOfTheFirstAndTheLast() {
        for (int islands = 1; islands <= 8; islands++) {
            SleepingIslands x = Checks.chip(EIGHT.substring(0, 4 * islands - 1));
            int[] none = {islands, islands + 1, islands + 8, 32, -1, BIG, SMALL};
            for (int n : none) {
                is.due("6: value(" + n + ", 1) of " + islands, x.value(n, 1), -1);
                is.due("6: value(" + n + ", 256) of " + islands, x.value(n, 256), -1);
            }
            is.due("6: value(0, 3) of " + islands, x.value(0, 3), 0);
            is.due("6: value(last, 4) of " + islands, x.value(islands - 1, 4), islands == 1 ? 3 : 0);
            is.due("6: of(last, 1) of " + islands, x.of(islands - 1, 1), 4);
        }
    }

    private static void valueOfOneThatIsNotAwake() {
        SleepingIslands x = oneOfEachState();
        for (int island = 1; island < 5; island++) {
            is.due("6: value(" + island + ", 0) in state " + island, x.value(island, 0), -5);
            is.due("6: value(" + island + ", 255) in state " + island, x.value(island, 255), -5);
            is.due("6: value(" + island + ", 256) in state " + island, x.value(island, 256), -2);
            is.due("6: of(" + island + ", 1) stays", x.of(island, 1), 0);
        }
        is.due("6: value(0, 255) of one that is awake", x.value(0, 255), 0);
    }

    private static void sleepOfNumbersThatAreNotThere() {
        for (int islands = 1; islands <= 8; islands++) {
            SleepingIslands x = Checks.chip(EIGHT.substring(0, 4 * islands - 1));
            int[] none = {islands, islands + 1, islands + 8, 32, -1, BIG, SMALL};
            for (int n : none) {
                is.due("7: sleep(" + n + ") of " + islands, x.sleep(n), -1);
            }
            is.due("7: sleep(last) of " + islands, x.sleep(islands - 1), 0);
            is.due("7: of(last, 0) of " + islands, x.of(islands - 1, 0), 1);
        }
    }

    private static void sleepOfEachState() {
        SleepingIslands x = oneOfEachState();
        int[] states = {0, 1, 2, 3, 4};
        for (int island = 1; island < 5; island++) {
            is.due("7: of(" + island + ", 0) ahead", x.of(island, 0), states[island]);
            is.due("7: sleep(" + island + ") in state " + island, x.sleep(island), -5);
            is.due("7: of(" + island + ", 0) behind", x.of(island, 0), states[island]);
        }
        is.due("7: sleep(0) in state 0", x.sleep(0), 0);
        is.due("7: of(0, 0): it falls", x.of(0, 0), 1);
        is.due("7: sleep(0) again", x.sleep(0), -5);
        x.pass(1);
        is.due("7: of(0, 0): one tick later it is asleep", x.of(0, 0), 2);
    }

    private static void sleepIsReadByNoneUpToSeven() {
        for (int readers = 0; readers <= 7; readers++) {
            SleepingIslands x = Checks.chip(EIGHT);
            for (int reader = 0; reader < readers; reader++) {
                x.link(reader, 7, true);
                x.link(7, reader, true);
            }
            is.due("7: sleep(7), read by " + readers, x.sleep(7), readers);
        }
    }

    private static void sleepCountsTheAwakeAlone() {
        SleepingIslands x = oneOfEachState();
        is.due("7: sleep(5): of its readers 0 alone is awake", x.sleep(5), 1);
        x.undo();
        x.sleep(0);
        is.due("7: sleep(5): none of its readers is awake", x.sleep(5), 0);
        SleepingIslands y = oneOfEachState();
        y.pass(9);
        is.due("7: of(4, 0): it is awake again", y.of(4, 0), 0);
        is.due("7: sleep(5): 0 and 4 are awake", y.sleep(5), 2);
    }

    private static void wakeOfNumbersThatAreNotThere() {
        for (int islands = 1; islands <= 8; islands++) {
            SleepingIslands x = Checks.asleep(EIGHT.substring(0, 4 * islands - 1), islands - 1);
            int[] none = {islands, islands + 1, islands + 8, 32, -1, BIG, SMALL};
            for (int n : none) {
                is.due("8: wake(" + n + ") of " + islands, x.wake(n), -1);
            }
            is.due("8: wake(last) of " + islands, x.wake(islands - 1), 1);
        }
    }

    private static void wakeOfEachState() {
        SleepingIslands x = oneOfEachState();
        int[] notAsleep = {0, 1, 3, 4, 5};
        for (int n : notAsleep) {
            int state = x.of(n, 0);
            is.due("8: wake(" + n + ") in state " + state, x.wake(n), -5);
            is.due("8: of(" + n + ", 0) behind", x.of(n, 0), state);
        }
        is.due("8: wake(2) in state 2", x.wake(2), 2);
        is.due("8: of(2, 0): it waits", x.of(2, 0), 3);
        is.due("8: wake(2) again", x.wake(2), -5);
    }

    private static void wakeOfOneUpToEight() {
        SleepingIslands x = Checks.asleep(EIGHT, 0, 1, 2, 3, 4, 5, 6, 7);
        for (int island = 0; island < 8; island++) {
            is.due("8: waiting(" + island + ") ahead", x.waiting(island), -1);
            is.due("8: wake(" + island + ")", x.wake(island), island + 1);
            is.due("8: waiting(" + island + ") behind", x.waiting(island), island);
        }
        is.due("8: waiting(8)", x.waiting(8), -1);
        x.pass(1);
        is.due("8: count(4): all eight rise", x.count(4), 255);
        is.due("8: waiting(0): nobody waits", x.waiting(0), -1);
    }

    private static void wakeBehindAllThatWait() {
        SleepingIslands x = Checks.asleep("9,20;1,20;1,20;1,20", 0, 1, 2, 3);
        Checks.wake(x, 0, 3, 1);
        x.pass(1);
        is.due("8: waiting(0)", x.waiting(0), 3);
        is.due("8: waiting(1)", x.waiting(1), 1);
        is.due("8: wake(2): how many wait, not the one that rises", x.wake(2), 3);
        is.due("8: waiting(2): behind all that wait already", x.waiting(2), 2);
        is.due("8: of(2, 11)", x.of(2, 11), 2);
    }
}
