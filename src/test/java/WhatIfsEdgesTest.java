/** The boundary cases of promises 13 to 16. */
public final class WhatIfsEdgesTest {
    private static final Checks is = new Checks();
    private static final int BIG = Checks.BIG, SMALL = Checks.SMALL;
    private static final String EIGHT = "1,1;1,1;1,1;1,1;1,1;1,1;1,1;1,1";

    public static void main(String[] args) {
        ifPassedFrom1To200();
        ifPassedOfNoOtherWhat();
        ifPassedFromNothingToTheMost();
        ifPassedOfTheTicksAskedFor();
        ifPassedLeavesOutWhatWas();
        allAwakeIn0();
        allAwakeInTheLeast();
        allAwakeInTheMost();
        allAwakeNever();
        leastCurrentFrom0To200();
        leastCurrentIn0();
        leastCurrentOnTheTick();
        leastCurrentFrom1To60();
        leastCurrentDoesNotLookAtCurrent();
        quietFrom1To50();
        quietOfNoneAndOfAll();
        quietOnTheTick();
        quietInTheFiftiethTick();
        quietOfTheAwakeAlone();
        is.end();
    }

    private static void ifPassedFrom1To200() {
        SleepingIslands x = Checks.asleep("1,1;1,1>0", 0);
        is.due("13: ifPassed(1, 0)", x.ifPassed(1, 0), 1);
        is.due("13: ifPassed(2, 0)", x.ifPassed(2, 0), 2);
        is.due("13: ifPassed(199, 0)", x.ifPassed(199, 0), 199);
        is.due("13: ifPassed(200, 0)", x.ifPassed(200, 0), 200);
        int[] bad = {0, 201, -1, 202, 256, 257, BIG, SMALL};
        for (int b : bad) {
            for (int what = 0; what < 4; what++) {
                is.due("13: ifPassed(" + b + ", " + what + ")", x.ifPassed(b, what), -2);
            }
        }
    }

    private static void ifPassedOfNoOtherWhat() {
        SleepingIslands x = Checks.chip("1,1");
        int[] bad = {-1, 4, 5, 256, BIG, SMALL};
        for (int b : bad) {
            is.due("13: ifPassed(1, " + b + ")", x.ifPassed(1, b), -2);
            is.due("13: ifPassed(200, " + b + ")", x.ifPassed(200, b), -2);
            is.due("13: ifPassed(0, " + b + "): both are bad", x.ifPassed(0, b), -2);
        }
    }

    private static void ifPassedFromNothingToTheMost() {
        SleepingIslands none = new SleepingIslands();
        for (int what = 0; what < 4; what++) {
            is.due("13: ifPassed(1, " + what + ") without islands", none.ifPassed(1, what), 0);
        }
        SleepingIslands all = Checks.chip(EIGHT);
        for (int island = 0; island < 8; island++) {
            all.value(island, 255);
        }
        is.due("13: ifPassed(200, 1): all", all.ifPassed(200, 1), 255);
        is.due("13: ifPassed(200, 3): eight times 255", all.ifPassed(200, 3), 2040);
        SleepingIslands load = Checks.asleep("1,20;1,20;1,20;1,20", 0, 1, 2, 3);
        load.set(0, 60);
        Checks.wake(load, 0, 1, 2, 3);
        is.due("13: ifPassed(200, 2): three times 20", load.ifPassed(200, 2), 60);
        is.due("13: count(6) stays", load.count(6), 0);
        SleepingIslands noise = Checks.asleep("1,1;1,1;1,1;1,1;1,1>0>1>2>3;1,1>0>1>2>3;1,1>0>1>2>3;1,1>0>1>2>3", 0, 1, 2, 3);
        is.due("13: ifPassed(200, 0): sixteen a tick", noise.ifPassed(200, 0), 3200);
    }

    private static void ifPassedOfTheTicksAskedFor() {
        SleepingIslands x = Checks.asleep("3,9", 0);
        x.wake(0);
        is.due("13: ifPassed(1, 2): it rises", x.ifPassed(1, 2), 9);
        is.due("13: ifPassed(3, 1): a tick too early", x.ifPassed(3, 1), 0);
        is.due("13: ifPassed(4, 1): in time", x.ifPassed(4, 1), 1);
        is.due("13: ifPassed(4, 2): a tick in the midst counts", x.ifPassed(4, 2), 9);
        x.pass(3);
        is.due("13: count(5): it rises now", x.count(5), 9);
        is.due("13: ifPassed(1, 2): now is not behind a tick", x.ifPassed(1, 2), 0);
        x.undo();
        x.undo();
        is.due("13: ifPassed(200, 2): nobody is ordered", x.ifPassed(200, 2), 0);
        is.due("13: ifPassed(200, 1): nobody is ordered", x.ifPassed(200, 1), 0);
    }

    private static void ifPassedLeavesOutWhatWas() {
        SleepingIslands x = Checks.asleep("1,20;1,1>0", 0);
        x.wake(0);
        x.pass(2);
        is.due("13: count(7)", x.count(7), 2);
        is.due("13: count(6)", x.count(6), 20);
        is.due("13: ifPassed(200, 0): no more noise", x.ifPassed(200, 0), 0);
        is.due("13: ifPassed(200, 2): no more loads", x.ifPassed(200, 2), 0);
    }

    private static void allAwakeIn0() {
        is.due("14: allAwake() without islands", new SleepingIslands().allAwake(), 0);
        is.due("14: allAwake() of one", Checks.chip("9,20").allAwake(), 0);
        is.due("14: allAwake() of eight", Checks.chip(EIGHT).allAwake(), 0);
    }

    private static void allAwakeInTheLeast() {
        SleepingIslands x = Checks.asleep("1,1", 0);
        is.due("14: allAwake() of one asleep", x.allAwake(), 2);
        x.wake(0);
        is.due("14: allAwake() of one waiting", x.allAwake(), 2);
        x.pass(1);
        is.due("14: allAwake() of one rising", x.allAwake(), 1);
        x.pass(1);
        is.due("14: allAwake() of one awake", x.allAwake(), 0);
    }

    /** One island rises at any time, so that no chip that ever is awake takes longer than 8 times 9 ticks and one. */
    private static void allAwakeInTheMost() {
        SleepingIslands x = Checks.asleep("9,20;9,20;9,20;9,20;9,20;9,20;9,20;9,20", 0, 1, 2, 3, 4, 5, 6, 7);
        is.due("14: allAwake() one by one", x.allAwake(), 73);
        x.set(0, 39);
        is.due("14: allAwake() with 39", x.allAwake(), 73);
        x.set(0, 40);
        is.due("14: allAwake() with 40", x.allAwake(), 37);
        x.set(0, 60);
        is.due("14: allAwake() with 60", x.allAwake(), 28);
        is.due("14: ifPassed(200, 1): none was ordered", x.ifPassed(200, 1), 0);
        for (int island = 0; island < 8; island++) {
            x.wake(island);
        }
        is.due("14: allAwake() when all wait", x.allAwake(), 28);
        x.pass(27);
        is.due("14: allAwake() a tick ahead", x.allAwake(), 1);
        is.due("14: ifPassed(1, 1)", x.ifPassed(1, 1), 255);
    }

    private static void allAwakeNever() {
        SleepingIslands x = Checks.chip("1,1;1,1>0");
        x.sleep(0);
        is.due("14: allAwake(): a falling one is not asleep now", x.allAwake(), -6);
        x.set(1, 1);
        is.due("14: allAwake(): it is asked for", x.allAwake(), 2);
        x.link(1, 0, false);
        is.due("14: allAwake(): nobody asks for it", x.allAwake(), -6);
        x.set(1, 0);
        x.pass(1);
        is.due("14: allAwake(): it is asleep now", x.allAwake(), 2);
        // 1 is awake and asks only when its nine ticks are over; 0 falls long before.
        SleepingIslands y = Checks.asleep("1,1;9,1>0", 1);
        y.set(1, 1);
        y.sleep(0);
        is.due("14: allAwake(): the one that asks rises first", y.allAwake(), 11);
    }

    private static void leastCurrentFrom0To200() {
        SleepingIslands x = Checks.chip("1,1");
        is.due("15: leastCurrent(0)", x.leastCurrent(0), 1);
        is.due("15: leastCurrent(200)", x.leastCurrent(200), 1);
        int[] bad = {-1, 201, 202, 256, 257, BIG, SMALL};
        for (int b : bad) {
            is.due("15: leastCurrent(" + b + ")", x.leastCurrent(b), -2);
        }
        x.sleep(0);
        is.due("15: leastCurrent(200) of none", x.leastCurrent(200), -6);
        is.due("15: leastCurrent(201) of none", x.leastCurrent(201), -2);
        is.due("15: leastCurrent(-1) of none", x.leastCurrent(-1), -2);
    }

    private static void leastCurrentIn0() {
        is.due("15: leastCurrent(0) without islands", new SleepingIslands().leastCurrent(0), 1);
        is.due("15: leastCurrent(0) of eight awake", Checks.chip(EIGHT).leastCurrent(0), 1);
        SleepingIslands x = Checks.asleep("1,1;1,1", 0);
        is.due("15: leastCurrent(0) of one asleep", x.leastCurrent(0), -6);
        x.wake(0);
        x.pass(1);
        is.due("15: leastCurrent(0) of one rising", x.leastCurrent(0), -6);
        is.due("15: leastCurrent(1) of one rising", x.leastCurrent(1), 1);
        x.pass(1);
        is.due("15: leastCurrent(0) of all awake", x.leastCurrent(0), 1);
    }

    private static void leastCurrentOnTheTick() {
        SleepingIslands x = Checks.asleep("9,20;9,20;9,20;9,20;9,20;9,20;9,20;9,20", 0, 1, 2, 3, 4, 5, 6, 7);
        int[][] due = {{27, -6}, {28, 60}, {36, 60}, {37, 40}, {72, 40}, {73, 1}, {200, 1}};
        for (int[] d : due) {
            is.due("15: leastCurrent(" + d[0] + ")", x.leastCurrent(d[0]), d[1]);
        }
    }

    private static void leastCurrentFrom1To60() {
        int[][] loads = {{1, 1, 1}, {20, 20, 19}, {20, 20, 20}};
        for (int[] l : loads) {
            SleepingIslands x = Checks.asleep("1," + l[0] + ";1," + l[1] + ";1," + l[2], 0, 1, 2);
            int sum = l[0] + l[1] + l[2];
            is.due("15: leastCurrent(2) of " + sum, x.leastCurrent(2), sum);
            is.due("15: leastCurrent(1) of " + sum, x.leastCurrent(1), -6);
        }
        SleepingIslands above = Checks.asleep("1,20;1,20;1,20;1,1", 0, 1, 2, 3);
        is.due("15: leastCurrent(2) of 61", above.leastCurrent(2), -6);
        is.due("15: leastCurrent(3) of 61", above.leastCurrent(3), 40);
        is.due("15: leastCurrent(2) of one alone", Checks.asleep("1,20", 0).leastCurrent(2), 1);
    }

    private static void leastCurrentDoesNotLookAtCurrent() {
        SleepingIslands x = Checks.asleep("1,10;1,10", 0, 1);
        int[] currents = {1, 19, 20, 60};
        for (int current : currents) {
            x.set(0, current);
            is.due("15: leastCurrent(2) with " + current, x.leastCurrent(2), 20);
            is.due("15: count(10) stays", x.count(10), current);
        }
    }

    private static void quietFrom1To50() {
        SleepingIslands x = Checks.chip(EIGHT);
        is.due("16: quiet(1)", x.quiet(1), 255);
        is.due("16: quiet(50)", x.quiet(50), 255);
        int[] bad = {0, 51, -1, 52, 200, 256, 257, BIG, SMALL};
        for (int b : bad) {
            is.due("16: quiet(" + b + ")", x.quiet(b), -2);
        }
    }

    private static void quietOfNoneAndOfAll() {
        is.due("16: quiet(50) without islands", new SleepingIslands().quiet(50), 0);
        SleepingIslands ring = Checks.chip("1,1>1;1,1>2;1,1>3;1,1>4;1,1>5;1,1>6;1,1>7;1,1>0");
        is.due("16: quiet(1) of a ring", ring.quiet(1), 255);
        is.due("16: quiet(2) of a ring", ring.quiet(2), 0);
        SleepingIslands isolators = Checks.chip("i1,1>1;i1,1>2;i1,1>3;i1,1>4;i1,1>5;i1,1>6;i1,1;i1,1>0");
        is.due("16: quiet(50) with isolators", isolators.quiet(50), 255);
    }

    /** In the first tick it still tells its value; noise is read in the second. */
    private static void quietOnTheTick() {
        SleepingIslands x = Checks.chip("1,1;1,1>0");
        is.due("16: quiet(1)", x.quiet(1), 3);
        is.due("16: quiet(2)", x.quiet(2), 2);
        SleepingIslands y = Checks.asleep("1,1;3,1>0", 1);
        y.wake(1);
        is.due("16: quiet(4): 1 is awake behind the fourth tick", y.quiet(4), 1);
        is.due("16: quiet(5): and reads in the fifth", y.quiet(5), 0);
    }

    /** Five islands rise ahead of the reader, nine ticks each; with a rise of 3 it reads in tick 50, with 4 in tick 51. */
    private static void quietInTheFiftiethTick() {
        for (int rise = 3; rise <= 4; rise++) {
            SleepingIslands x = Checks.asleep("i9,20;i9,20;i9,20;i9,20;i9,20;i" + rise + ",20>6;1,1;1,1", 0, 1, 2, 3, 4, 5);
            x.set(0, 1);
            Checks.wake(x, 0, 1, 2, 3, 4, 5);
            is.due("16: quiet(49), rise " + rise, x.quiet(49), 192);
            is.due("16: quiet(50), rise " + rise, x.quiet(50), rise == 3 ? 128 : 192);
            is.due("16: ifPassed(200, 0): 6 is awake", x.ifPassed(200, 0), 0);
        }
    }

    private static void quietOfTheAwakeAlone() {
        SleepingIslands x = Checks.asleep("1,1;1,1;1,1;1,20;9,20", 2, 3, 4);
        Checks.wake(x, 4, 3);
        x.pass(1);
        x.sleep(1);
        is.due("16: quiet(50): not falling, asleep, waiting, rising", x.quiet(50), 1);
        x.sleep(0);
        is.due("16: quiet(50): nobody is awake", x.quiet(50), 0);
        is.due("16: quiet(0): nobody is awake", x.quiet(0), -2);
    }
}
