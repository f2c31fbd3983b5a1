/** Promise 9: pass, and the five steps of a tick. */
public final class TicksTest {
    private static final Checks is = new Checks();

    public static void main(String[] args) {
        range();
        passIsAChange();
        readingGoesByTheBeginning();
        leftOverBy256();
        fallingAndWaitingOnesTell();
        noiseOfEachReader();
        onlyTheAwakeRead();
        keepersAndLosses();
        riseInTicks();
        askingOrdersSleepers();
        manyAsk();
        askingSeesTheStatesOfItsStep();
        queueAndCurrent();
        aloneAboveCurrent();
        loadsTogetherAtMostCurrent();
        laterOnesPass();
        settingsAndLinksOnTheWay();
        is.end();
    }

    private static void range() {
        SleepingIslands x = Checks.chip("1,1");
        String before = Checks.look(x);
        int[] bad = {0, -1, 201, Integer.MAX_VALUE, Integer.MIN_VALUE};
        for (int b : bad) {
            is.due("9: pass(" + b + ")", x.pass(b), -2);
        }
        is.same("9: pass that fails", before, x);
        is.due("9: pass(200)", x.pass(200), 0);
        is.due("9: pass(1)", x.pass(1), 0);
        is.due("9: count(9)", x.count(9), 201);
        is.due("9: pass without islands", new SleepingIslands().pass(1), 0);
    }

    private static void passIsAChange() {
        SleepingIslands x = Checks.chip("1,1;1,1>0");
        x.value(1, 3);
        Checks.sleepFully(x, 0);
        is.due("9: pass(3)", x.pass(3), 3);
        is.due("9: of(1, 1)", x.of(1, 1), 0);
        x.undo();
        is.due("9: count(7) undone", x.count(7), 0);
        is.due("9: of(1, 1) undone", x.of(1, 1), 3);
        is.due("9: of(1, 12) undone", x.of(1, 12), 0);
        is.due("9: count(9) undone", x.count(9), 1);
        x.undo();
        is.due("9: of(0, 0) undone", x.of(0, 0), 1);
    }

    private static void readingGoesByTheBeginning() {
        SleepingIslands x = Checks.chip("1,1>1;1,1>2;1,1>0");
        x.value(0, 1);
        x.value(1, 10);
        x.value(2, 100);
        x.pass(1);
        is.due("9: of(0, 1)", x.of(0, 1), 11);
        is.due("9: of(1, 1)", x.of(1, 1), 110);
        is.due("9: of(2, 1)", x.of(2, 1), 101);
        x.pass(1);
        is.due("9: of(0, 1) then", x.of(0, 1), 121);
        is.due("9: of(1, 1) then", x.of(1, 1), 211);
        is.due("9: of(2, 1) then", x.of(2, 1), 112);
    }

    private static void leftOverBy256() {
        SleepingIslands x = Checks.chip("1,1>1>2>3>4>5>6>7;1,1;1,1;1,1;1,1;1,1;1,1;1,1");
        for (int island = 0; island < 8; island++) {
            x.value(island, 255);
        }
        is.due("9: pass(1)", x.pass(1), 0);
        is.due("9: of(0, 1)", x.of(0, 1), 248);
        x.value(0, 1);
        x.link(0, 2, false);
        for (int island = 3; island < 8; island++) {
            x.link(0, island, false);
        }
        x.pass(1);
        is.due("9: 1 and 255 of(0, 1)", x.of(0, 1), 0);
    }

    private static void fallingAndWaitingOnesTell() {
        SleepingIslands x = Checks.chip("2,5;1,1>0;i2,5;1,1>2");
        x.set(0, 1);
        x.value(0, 7);
        x.value(2, 9);
        x.sleep(0);
        x.sleep(2);
        is.due("9: of(0, 9) falling", x.of(0, 9), 7);
        is.due("9: pass(1): the falling ones tell their values", x.pass(1), 0);
        is.due("9: of(1, 1)", x.of(1, 1), 7);
        is.due("9: of(3, 1)", x.of(3, 1), 9);
        is.due("9: of(0, 9) asleep", x.of(0, 9), 255);
        is.due("9: of(2, 9) asleep", x.of(2, 9), 0);
        is.due("9: pass(1): asleep", x.pass(1), 1);
        is.due("9: of(1, 1) then", x.of(1, 1), 6);
        x.wake(2);
        x.wake(0);
        is.due("9: of(0, 9) waiting", x.of(0, 9), 255);
        is.due("9: of(2, 9) waiting", x.of(2, 9), 0);
        is.due("9: pass(1): waiting", x.pass(1), 1);
        is.due("9: pass(2): 0 waits, then rises", x.pass(2), 2);
        is.due("9: of(0, 9) rising", x.of(0, 9), 255);
        is.due("9: of(2, 0)", x.of(2, 0), 0);
        is.due("9: pass(2)", x.pass(2), 2);
        is.due("9: of(0, 0)", x.of(0, 0), 0);
        is.due("9: of(0, 9) awake", x.of(0, 9), 0);
        is.due("9: pass(5): awake", x.pass(5), 0);
        is.due("9: of(3, 1) at the end", x.of(3, 1), 9);
        is.due("9: of(1, 12)", x.of(1, 12), 6);
        is.due("9: of(3, 12)", x.of(3, 12), 0);
    }

    private static void noiseOfEachReader() {
        SleepingIslands x = Checks.chip("1,1;1,1;1,1>0>1;1,1>0;i1,1>1");
        x.sleep(0);
        Checks.sleepFully(x, 1);
        is.due("9: pass(3)", x.pass(3), 12);
        is.due("9: of(2, 12)", x.of(2, 12), 6);
        is.due("9: of(3, 12)", x.of(3, 12), 3);
        is.due("9: of(4, 12)", x.of(4, 12), 3);
        is.due("9: of(0, 12)", x.of(0, 12), 0);
        is.due("9: count(7)", x.count(7), 12);
        is.due("9: of(2, 1)", x.of(2, 1), 250);
        x.value(3, 255);
        x.link(2, 3, true);
        x.link(2, 0, false);
        x.link(2, 1, false);
        x.link(3, 0, false);
        x.link(4, 1, false);
        is.due("9: pass(1): 255 of one that is awake is no noise", x.pass(1), 0);
        is.due("9: count(7) so far", x.count(7), 12);
    }

    private static void onlyTheAwakeRead() {
        SleepingIslands x = Checks.chip("1,1;k3,1>0>2;1,1");
        x.value(1, 5);
        x.value(2, 3);
        Checks.sleepFully(x, 0);
        is.due("9: of(1, 1)", x.of(1, 1), 8);
        x.sleep(1);
        is.due("9: a falling one reads nothing", x.pass(1), 0);
        is.due("9: of(1, 2): nor does it get a new value", x.of(1, 2), 8);
        is.due("9: a sleeping one reads nothing", x.pass(2), 0);
        x.wake(1);
        is.due("9: a waiting and rising one reads nothing", x.pass(4), 0);
        is.due("9: of(1, 0)", x.of(1, 0), 0);
        is.due("9: of(1, 1) kept", x.of(1, 1), 8);
        is.due("9: it reads again", x.pass(1), 1);
        is.due("9: of(1, 1) then", x.of(1, 1), 10);
    }

    private static void keepersAndLosses() {
        SleepingIslands x = Checks.chip("k1,1;1,1;1,1");
        x.value(0, 50);
        x.value(1, 60);
        for (int island = 0; island < 3; island++) {
            x.sleep(island);
        }
        is.due("9: of(0, 2) falling", x.of(0, 2), 0);
        is.due("9: of(0, 1) falling", x.of(0, 1), 50);
        is.due("9: count(8) falling", x.count(8), 0);
        x.pass(1);
        is.due("9: of(0, 2) asleep", x.of(0, 2), 50);
        is.due("9: of(0, 1) asleep", x.of(0, 1), 0);
        is.due("9: of(1, 1) asleep", x.of(1, 1), 0);
        is.due("9: of(1, 2) asleep", x.of(1, 2), 0);
        is.due("9: count(8): a kept one and a 0 are no loss", x.count(8), 1);
        for (int island = 0; island < 3; island++) {
            x.wake(island);
        }
        x.pass(2);
        is.due("9: of(0, 1) awake again", x.of(0, 1), 50);
        is.due("9: of(0, 2) awake again", x.of(0, 2), 50);
        is.due("9: of(1, 1) awake again", x.of(1, 1), 0);
        x.value(0, 0);
        x.value(2, 1);
        x.sleep(0);
        Checks.sleepFully(x, 2);
        is.due("9: of(0, 2): a 0 is kept, too", x.of(0, 2), 0);
        is.due("9: count(8) then", x.count(8), 2);
        x.pass(5);
        is.due("9: count(8): one sleep is lost once", x.count(8), 2);
    }

    private static void riseInTicks() {
        SleepingIslands x = Checks.chip("9,1;1,1");
        x.sleep(0);
        Checks.sleepFully(x, 1);
        x.wake(0);
        x.wake(1);
        is.due("9: of(0, 10) waiting", x.of(0, 10), 0);
        x.pass(1);
        for (int left = 9; left > 0; left--) {
            is.due("9: of(0, 0)", x.of(0, 0), 4);
            is.due("9: of(0, 10)", x.of(0, 10), left);
            is.due("9: of(1, 0)", x.of(1, 0), left == 9 ? 4 : 0);
            is.due("9: of(1, 10)", x.of(1, 10), left == 9 ? 1 : 0);
            x.pass(1);
        }
        is.due("9: of(0, 0) at the end", x.of(0, 0), 0);
        is.due("9: of(0, 10) at the end", x.of(0, 10), 0);
        is.due("9: count(9)", x.count(9), 11);
    }

    private static void askingOrdersSleepers() {
        SleepingIslands x = Checks.chip("1,2>3>1;1,20;1,20;1,20;1,1");
        x.sleep(1);
        x.sleep(2);
        x.sleep(4);
        Checks.sleepFully(x, 3);
        x.pass(1);
        is.due("9: count(2): nobody asks", x.count(2), 30);
        x.set(1, 1);
        is.due("9: count(2): asking is a part of a tick", x.count(2), 30);
        x.pass(1);
        is.due("9: count(4): 1 rises at once", x.count(4), 2);
        is.due("9: count(3)", x.count(3), 8);
        is.due("9: count(2): nobody reads 2 and 4", x.count(2), 20);
        x.pass(1);
        is.due("9: count(1)", x.count(1), 3);
        is.due("9: count(4) then", x.count(4), 8);
        x.pass(5);
        is.due("9: count(1) at the end", x.count(1), 11);
        x.wake(4);
        x.sleep(3);
        x.sleep(1);
        x.pass(1);
        is.due("9: asked for in the tick in which it falls asleep: of(1, 0)", x.of(1, 0), 3);
        is.due("9: of(3, 11): behind 1, ahead of 4 there was room", x.of(3, 11), 1);
        is.due("9: of(4, 0)", x.of(4, 0), 4);
    }

    private static void manyAsk() {
        SleepingIslands x = Checks.chip("i1,1>3>4;i1,1>5;i1,1;i1,1;i1,1;i1,1>2");
        for (int island = 2; island < 6; island++) {
            x.sleep(island);
        }
        x.pass(1);
        x.set(1, 1);
        x.set(0, 1);
        x.pass(1);
        is.due("9: count(4): 3 is asked for by 0, and rises", x.count(4), 8);
        is.due("9: waiting(0): 4 is asked for by 0", x.waiting(0), 4);
        is.due("9: waiting(1): 5 is asked for by 1", x.waiting(1), 5);
        is.due("9: count(2): 2 is read by 5 alone, which is not awake", x.count(2), 4);
        x.pass(3);
        is.due("9: count(1): all that are read by the awake", x.count(1), 59);
        is.due("9: count(4): now 2", x.count(4), 4);
    }

    /** An island that wakes in a tick asks in this tick, one that was ordered does not, and one that falls does not. */
    private static void askingSeesTheStatesOfItsStep() {
        SleepingIslands x = Checks.chip("1,1>1;2,1>2;1,1;1,1>2");
        x.sleep(0);
        x.sleep(1);
        x.sleep(2);
        Checks.sleepFully(x, 3);
        x.set(1, 1);
        x.wake(0);
        x.pass(1);
        is.due("9: count(4): only 0", x.count(4), 1);
        is.due("9: count(2)", x.count(2), 14);
        x.pass(1);
        is.due("9: count(1): 0 is awake", x.count(1), 1);
        is.due("9: count(4): and asks for 1 at once", x.count(4), 2);
        is.due("9: count(2) then: 1 does not ask while it rises", x.count(2), 12);
        x.pass(1);
        is.due("9: count(2) still", x.count(2), 12);
        x.pass(1);
        is.due("9: count(1): 1 is awake", x.count(1), 3);
        is.due("9: count(4): and asks for 2", x.count(4), 4);
        is.due("9: count(2): nobody asks for 3", x.count(2), 8);
        x.pass(2);
        x.sleep(1);
        Checks.sleepFully(x, 2);
        is.due("9: of(2, 0): 1 is asleep by then, nobody asks for 2", x.of(2, 0), 2);
        is.due("9: of(1, 0): 0 asks for it", x.of(1, 0), 4);
    }

    private static void queueAndCurrent() {
        SleepingIslands x = Checks.chip("2,4;3,6;1,5;1,1;1,20");
        x.set(0, 10);
        for (int island = 0; island < 5; island++) {
            x.sleep(island);
        }
        x.pass(1);
        x.wake(4);
        x.wake(2);
        x.wake(0);
        x.wake(1);
        x.wake(3);
        x.pass(1);
        is.due("9: count(4): the first rises alone, though above CURRENT", x.count(4), 16);
        is.due("9: count(5)", x.count(5), 20);
        is.due("9: waiting(0)", x.waiting(0), 2);
        is.due("9: waiting(3)", x.waiting(3), 3);
        x.pass(1);
        is.due("9: count(4): 5 and 4 and 1, but not 6", x.count(4), 13);
        is.due("9: count(5): 10", x.count(5), 10);
        is.due("9: waiting(0): 1 waits on", x.waiting(0), 1);
        is.due("9: of(1, 11)", x.of(1, 11), 0);
        is.due("9: waiting(1)", x.waiting(1), -1);
        x.pass(1);
        is.due("9: count(4): 4 and 6", x.count(4), 3);
        is.due("9: count(6)", x.count(6), 20);
        x.pass(3);
        is.due("9: count(1)", x.count(1), 31);
    }

    private static void aloneAboveCurrent() {
        SleepingIslands x = Checks.chip("1,20;1,20;1,1");
        x.set(0, 1);
        x.sleep(0);
        x.sleep(1);
        Checks.sleepFully(x, 2);
        x.wake(1);
        x.wake(2);
        x.wake(0);
        x.pass(1);
        is.due("9: count(4): one alone", x.count(4), 2);
        x.pass(1);
        is.due("9: count(4): the next alone", x.count(4), 4);
        x.pass(1);
        is.due("9: count(4): the last alone", x.count(4), 1);
    }

    private static void loadsTogetherAtMostCurrent() {
        SleepingIslands x = Checks.chip("3,9;3,11;3,1");
        x.sleep(0);
        x.sleep(1);
        Checks.sleepFully(x, 2);
        x.wake(0);
        x.wake(1);
        x.wake(2);
        x.pass(1);
        is.due("9: count(4): 9 and 11 are 20", x.count(4), 3);
        x.set(0, 21);
        x.pass(1);
        is.due("9: count(4): the 1 finds room beside them", x.count(4), 7);
        is.due("9: count(5)", x.count(5), 21);
        x.undo();
        x.set(0, 20);
        x.pass(1);
        is.due("9: count(4): no room", x.count(4), 3);
        is.due("9: of(0, 10)", x.of(0, 10), 2);
    }

    private static void laterOnesPass() {
        SleepingIslands x = Checks.chip("5,15;1,10;1,5;2,6;1,3");
        for (int island = 0; island < 5; island++) {
            x.sleep(island);
        }
        x.pass(1);
        for (int island = 0; island < 5; island++) {
            x.wake(island);
        }
        x.pass(1);
        is.due("9: count(4): 15 and 5", x.count(4), 5);
        is.due("9: waiting(0)", x.waiting(0), 1);
        is.due("9: waiting(1)", x.waiting(1), 3);
        is.due("9: waiting(2)", x.waiting(2), 4);
        x.pass(1);
        is.due("9: count(4): 15 and 3", x.count(4), 17);
        is.due("9: waiting(0) then", x.waiting(0), 1);
        is.due("9: waiting(1) then", x.waiting(1), 3);
        x.pass(4);
        is.due("9: count(4): 10 and 6", x.count(4), 10);
        x.pass(2);
        is.due("9: count(1)", x.count(1), 31);
        is.due("9: count(9)", x.count(9), 9);
    }

    private static void settingsAndLinksOnTheWay() {
        SleepingIslands x = Checks.chip("1,1>1;1,1");
        x.set(1, 1);
        Checks.sleepFully(x, 1);
        is.due("9: of(1, 0): asked for, it rises at once", x.of(1, 0), 4);
        is.due("9: pass(2): noise is read in one tick", x.pass(2), 1);
        is.due("9: of(0, 1)", x.of(0, 1), 255);
        x.set(1, 0);
        x.link(0, 1, false);
        Checks.sleepFully(x, 1);
        is.due("9: pass(10): no link, no noise", x.pass(10), 0);
        is.due("9: of(1, 0) at the end", x.of(1, 0), 2);
    }
}
