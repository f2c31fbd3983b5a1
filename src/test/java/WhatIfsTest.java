/** Promises 13 to 16: ifPassed, allAwake, leastCurrent, quiet. */
public final class WhatIfsTest {
    private static final Checks is = new Checks();
    private static final int BIG = Integer.MAX_VALUE, SMALL = Integer.MIN_VALUE;

    public static void main(String[] args) {
        ifPassed();
        ifPassedCountsTheseTicksAlone();
        ifPassedFails();
        allAwake();
        allAwakeBehindThoseThatWait();
        allAwakeOfFallingOnes();
        allAwakeAndAsking();
        leastCurrent();
        leastCurrentIsNotTheFirstThatFails();
        leastCurrentFails();
        quiet();
        quietOneByOne();
        quietAndAsking();
        quietFails();
        is.end();
    }

    private static void ifPassed() {
        SleepingIslands x = Checks.chip("2,12;k3,9>0;1,8>1;4,1>2");
        x.value(1, 40);
        x.value(3, 200);
        x.sleep(0);
        Checks.sleepFully(x, 1);
        x.wake(1);
        x.wake(0);
        String before = Checks.look(x);
        is.due("13: ifPassed(1, 0)", x.ifPassed(1, 0), 1);
        is.due("13: ifPassed(1, 1)", x.ifPassed(1, 1), 12);
        is.due("13: ifPassed(1, 2): 9 alone", x.ifPassed(1, 2), 9);
        is.due("13: ifPassed(1, 3)", x.ifPassed(1, 3), 39 + 240);
        is.due("13: ifPassed(4, 0)", x.ifPassed(4, 0), 4);
        is.due("13: ifPassed(4, 1)", x.ifPassed(4, 1), 14);
        is.due("13: ifPassed(4, 2): 12 behind the 9", x.ifPassed(4, 2), 12);
        is.due("13: ifPassed(6, 0): 1 reads 0 twice", x.ifPassed(6, 0), 6);
        is.due("13: ifPassed(6, 1)", x.ifPassed(6, 1), 15);
        is.due("13: ifPassed(6, 2)", x.ifPassed(6, 2), 12);
        is.due("13: ifPassed(200, 0)", x.ifPassed(200, 0), 6);
        is.same("13: ifPassed", before, x);
        int sum = x.ifPassed(6, 3);
        x.pass(6);
        is.due("13: ifPassed(6, 3)", sum, x.of(0, 1) + x.of(1, 1) + x.of(2, 1) + x.of(3, 1));
        is.due("13: of(1, 1)", x.of(1, 1), 38);
        SleepingIslands eight = Checks.chip("1,1;1,1;1,1;1,1;1,1;1,1;1,1;1,1");
        for (int island = 0; island < 8; island++) {
            eight.value(island, 1 << island);
        }
        is.due("13: ifPassed(1, 3) of eight", eight.ifPassed(1, 3), 255);
        is.due("13: ifPassed(1, 1) of eight", eight.ifPassed(1, 1), 255);
    }

    private static void ifPassedCountsTheseTicksAlone() {
        SleepingIslands x = Checks.chip("1,20;1,1>0;1,3");
        Checks.sleepFully(x, 0);
        x.wake(0);
        x.pass(3);
        is.due("13: count(6)", x.count(6), 20);
        is.due("13: count(7)", x.count(7), 2);
        is.due("13: ifPassed(9, 0): noise of before is left out", x.ifPassed(9, 0), 0);
        is.due("13: ifPassed(9, 2): loads of before are left out", x.ifPassed(9, 2), 0);
        Checks.sleepFully(x, 2);
        x.wake(2);
        is.due("13: ifPassed(9, 2): 3", x.ifPassed(9, 2), 3);
        x.pass(1);
        is.due("13: ifPassed(1, 2): behind the tick nobody rises", x.ifPassed(1, 2), 0);
        is.due("13: count(6) stays", x.count(6), 20);
        is.due("13: ifPassed(1, 0)", x.ifPassed(1, 0), 0);
    }

    private static void ifPassedFails() {
        SleepingIslands x = Checks.chip("1,1");
        int[][] bad = {{0, 0}, {-1, 0}, {201, 0}, {BIG, 0}, {SMALL, 0}, {1, -1}, {1, 4}, {1, BIG}, {1, SMALL}, {0, 4}};
        for (int[] b : bad) {
            is.due("13: ifPassed(" + b[0] + ", " + b[1] + ")", x.ifPassed(b[0], b[1]), -2);
        }
        is.due("13: ifPassed(200, 1)", x.ifPassed(200, 1), 1);
        SleepingIslands none = new SleepingIslands();
        for (int what = 0; what < 4; what++) {
            is.due("13: ifPassed(200, " + what + ") without islands", none.ifPassed(200, what), 0);
        }
        is.due("13: count(13): ifPassed is no change", x.count(13), 1);
    }

    private static void allAwake() {
        is.due("14: allAwake() without islands", new SleepingIslands().allAwake(), 0);
        SleepingIslands x = Checks.chip("1,15;2,5;3,6");
        is.due("14: allAwake() of all awake", x.allAwake(), 0);
        for (int island = 0; island < 3; island++) {
            x.sleep(island);
        }
        x.pass(1);
        String before = Checks.look(x);
        // 15 and 5 rise in the first tick, 6 in the second; it is awake three ticks later.
        is.due("14: allAwake()", x.allAwake(), 5);
        is.same("14: allAwake", before, x);
        x.set(0, 26);
        is.due("14: allAwake() with all at once", x.allAwake(), 4);
        x.set(0, 1);
        is.due("14: allAwake() one by one", x.allAwake(), 7);
        x.wake(0);
        x.wake(1);
        x.wake(2);
        x.pass(6);
        is.due("14: allAwake() a tick ahead", x.allAwake(), 1);
        x.pass(1);
        is.due("14: allAwake() then", x.allAwake(), 0);
        SleepingIslands longest = Checks.chip("9,20;9,20;9,20;9,20;9,20;9,20;9,20;9,20");
        longest.set(0, 39);
        for (int island = 0; island < 8; island++) {
            longest.sleep(island);
        }
        longest.pass(1);
        is.due("14: allAwake() of the longest", longest.allAwake(), 73);
        is.due("14: leastCurrent(73)", longest.leastCurrent(73), 1);
        is.due("14: leastCurrent(72)", longest.leastCurrent(72), 40);
    }

    private static void allAwakeBehindThoseThatWait() {
        SleepingIslands x = Checks.chip("9,2;1,10;1,9");
        for (int island = 0; island < 3; island++) {
            x.sleep(island);
        }
        x.pass(1);
        // 2 and 10 rise first, 9 behind the 10; by descending numbers 2 would have to wait for the 9 and the 10.
        is.due("14: allAwake() by ascending numbers", x.allAwake(), 10);
        x.wake(2);
        is.due("14: allAwake() with 2 ahead", x.allAwake(), 10);
        x.wake(1);
        is.due("14: allAwake() with 2 and 1 ahead", x.allAwake(), 11);
        x.set(0, 21);
        is.due("14: allAwake() with 21", x.allAwake(), 10);
        x.undo();
        x.undo();
        x.set(0, 10);
        is.due("14: allAwake() with 10 and 2 ahead", x.allAwake(), 12);
        is.due("14: count(3): nobody was ordered", x.count(3), 4);
        is.due("14: count(2)", x.count(2), 3);
    }

    private static void allAwakeOfFallingOnes() {
        SleepingIslands x = Checks.chip("1,1;1,1");
        x.sleep(0);
        is.due("14: allAwake(): a falling one is not ordered", x.allAwake(), -6);
        is.due("14: leastCurrent(200)", x.leastCurrent(200), -6);
        x.pass(1);
        is.due("14: allAwake() when it is asleep", x.allAwake(), 2);
        SleepingIslands y = Checks.chip("1,1;1,1>0");
        y.sleep(0);
        is.due("14: allAwake(): nobody asks", y.allAwake(), -6);
        y.set(1, 1);
        is.due("14: allAwake(): 1 asks for it in the first tick", y.allAwake(), 2);
        y.sleep(1);
        is.due("14: allAwake(): 1 falls, too", y.allAwake(), -6);
    }

    private static void allAwakeAndAsking() {
        SleepingIslands x = Checks.chip("3,1>1;2,1>2;1,1>0");
        x.set(1, 1);
        x.sleep(0);
        x.sleep(1);
        x.pass(1);
        is.due("14: count(4): 0 was asked for", x.count(4), 1);
        x.sleep(2);
        // 1 is ordered now, and awake in the third tick; 2 sleeps then, and is asked for; 0 is awake in the third, too.
        is.due("14: allAwake()", x.allAwake(), 4);
        x.set(1, 0);
        is.due("14: allAwake() without asking", x.allAwake(), -6);
    }

    private static void leastCurrent() {
        SleepingIslands x = Checks.chip("1,15;2,5;3,6");
        for (int island = 0; island < 3; island++) {
            x.sleep(island);
        }
        x.pass(1);
        String before = Checks.look(x);
        is.due("15: leastCurrent(3)", x.leastCurrent(3), -6);
        is.due("15: leastCurrent(4): all at once", x.leastCurrent(4), 26);
        is.due("15: leastCurrent(5): 5 and 6 behind the 15", x.leastCurrent(5), 11);
        is.due("15: leastCurrent(6)", x.leastCurrent(6), 11);
        is.due("15: leastCurrent(7): one by one", x.leastCurrent(7), 1);
        is.due("15: leastCurrent(200)", x.leastCurrent(200), 1);
        is.same("15: leastCurrent", before, x);
        is.due("15: count(10) stays", x.count(10), 20);
        SleepingIslands awake = Checks.chip("1,1");
        is.due("15: leastCurrent(0) of all awake", awake.leastCurrent(0), 1);
        awake.sleep(0);
        awake.pass(1);
        is.due("15: leastCurrent(0) of one asleep", awake.leastCurrent(0), -6);
        is.due("15: leastCurrent(1)", awake.leastCurrent(1), -6);
        is.due("15: leastCurrent(2)", awake.leastCurrent(2), 1);
        SleepingIslands most = Checks.chip("1,20;1,20;1,20;1,1");
        for (int island = 0; island < 4; island++) {
            most.sleep(island);
        }
        most.pass(1);
        is.due("15: leastCurrent(2): 61 would be too much", most.leastCurrent(2), -6);
        is.due("15: leastCurrent(3)", most.leastCurrent(3), 40);
        most.wake(0);
        most.wake(1);
        most.wake(2);
        most.pass(5);
        most.sleep(0);
        most.sleep(1);
        Checks.sleepFully(most, 2);
        most.wake(3);
        most.pass(2);
        is.due("15: leastCurrent(2) of 60", most.leastCurrent(2), 60);
    }

    /** With more current a great one may slip in ahead of a long one, and it takes longer. */
    private static void leastCurrentIsNotTheFirstThatFails() {
        SleepingIslands x = Checks.chip("4,10;9,10;5,7;1,2");
        for (int island = 0; island < 4; island++) {
            x.sleep(island);
        }
        x.pass(1);
        x.wake(3);
        x.wake(2);
        x.wake(1);
        x.wake(0);
        int[] due = new int[61];
        for (int current = 1; current <= 60; current++) {
            x.set(0, current);
            due[current] = x.allAwake();
        }
        for (int ticks = 0; ticks <= 30; ticks++) {
            int least = -6;
            for (int current = 60; current >= 1; current--) {
                if (due[current] != -6 && due[current] <= ticks) {
                    least = current;
                }
            }
            is.due("15: leastCurrent(" + ticks + ")", x.leastCurrent(ticks), least);
        }
    }

    private static void leastCurrentFails() {
        SleepingIslands x = Checks.chip("1,1");
        int[] bad = {-1, 201, BIG, SMALL};
        for (int b : bad) {
            is.due("15: leastCurrent(" + b + ")", x.leastCurrent(b), -2);
        }
        is.due("15: leastCurrent(200)", x.leastCurrent(200), 1);
        is.due("15: leastCurrent(0) without islands", new SleepingIslands().leastCurrent(0), 1);
    }

    private static void quiet() {
        SleepingIslands x = Checks.chip("1,1>1>2;i1,1;1,1;1,1");
        x.value(0, 9);
        String before = Checks.look(x);
        is.due("16: quiet(1): the falling ones still tell", x.quiet(1), 15);
        is.due("16: quiet(2): 2 has no isolator, and is read", x.quiet(2), 11);
        is.due("16: quiet(50)", x.quiet(50), 11);
        is.same("16: quiet", before, x);
        x.sleep(1);
        is.due("16: quiet(50): a falling one is not asked about", x.quiet(50), 9);
        x.pass(1);
        is.due("16: quiet(50): nor is a sleeping one", x.quiet(50), 9);
        Checks.sleepFully(x, 2);
        is.due("16: quiet(1): 0 reads noise, unless it is the one that sleeps", x.quiet(1), 1);
        is.due("16: quiet(50) then", x.quiet(50), 1);
        x.pass(3);
        is.due("16: count(7): noise of before", x.count(7), 3);
        is.due("16: quiet(50) is not about noise of before", x.quiet(50), 1);
        is.due("16: quiet(50) without islands", new SleepingIslands().quiet(50), 0);
    }

    private static void quietOneByOne() {
        SleepingIslands x = Checks.chip("1,1>1;1,1>0");
        is.due("16: quiet(1)", x.quiet(1), 3);
        is.due("16: quiet(2): each one alone would be heard", x.quiet(2), 0);
        SleepingIslands eight = Checks.chip("1,1;1,1>0;1,1;1,1;1,1;1,1;1,1;1,1");
        is.due("16: quiet(50) of eight", eight.quiet(50), 254);
        SleepingIslands y = Checks.chip("1,1;9,1>0");
        Checks.sleepFully(y, 1);
        is.due("16: quiet(50): the reader sleeps", y.quiet(50), 1);
        y.wake(1);
        is.due("16: quiet(10): the reader is awake behind the tenth tick", y.quiet(10), 1);
        is.due("16: quiet(11)", y.quiet(11), 0);
    }

    private static void quietAndAsking() {
        SleepingIslands x = Checks.chip("i1,1>2;i1,1>0;1,1");
        Checks.sleepFully(x, 0);
        Checks.sleepFully(x, 2);
        is.due("16: quiet(50): 0 sleeps, and does not read 2", x.quiet(50), 2);
        x.set(1, 1);
        is.due("16: quiet(2): 1 falls ahead of asking", x.quiet(2), 2);
        x.wake(0);
        is.due("16: quiet(2): 0 is awake behind the second tick", x.quiet(2), 2);
        is.due("16: quiet(3): and reads 2 before that is awake", x.quiet(3), 0);
        SleepingIslands y = Checks.chip("i1,1;i1,1>0;i1,1");
        y.set(1, 1);
        is.due("16: quiet(50) with asking", y.quiet(50), 7);
        // What ASKING orders is a part of the ticks: 3 asks for 0, which wakes and reads 2.
        SleepingIslands z = Checks.chip("i1,1>2;i1,1;1,1;1,1>0");
        z.sleep(0);
        Checks.sleepFully(z, 2);
        is.due("16: quiet(50): nobody asks", z.quiet(50), 10);
        z.set(1, 1);
        is.due("16: quiet(50): 3 asks, unless it is the one that sleeps", z.quiet(50), 8);
    }

    private static void quietFails() {
        SleepingIslands x = Checks.chip("1,1");
        int[] bad = {0, -1, 51, 200, BIG, SMALL};
        for (int b : bad) {
            is.due("16: quiet(" + b + ")", x.quiet(b), -2);
        }
        is.due("16: quiet(50)", x.quiet(50), 1);
        is.due("16: quiet(1)", x.quiet(1), 1);
        is.due("16: count(13): quiet is no change", x.count(13), 1);
    }
}
