/** The boundary cases of "A tick" and promise 9. */
public final class TickEdgesTest {
    private static final Checks is = new Checks();
    private static final int BIG = Checks.BIG, SMALL = Checks.SMALL;
    private static final String EIGHT = "1,1;1,1;1,1;1,1;1,1;1,1;1,1;1,1";

    public static void main(String[] args) {
        ticksFrom1To200();
        noiseFromNoneToTheMost();
        leftOverBy256();
        noiseIsLeftOverBy256Too();
        wrapsAgainAndAgain();
        oneThatReadsNothingKeepsItsValue();
        allByTheBeginningOfTheTick();
        fallingTakesOneTick();
        valuesThatAreLost();
        valuesThatAreKept();
        riseOf1AndOf9();
        askingOffAndOn();
        askedByAscendingNumbers();
        theFirstAndTheLastAsk();
        askedBehindThoseThatWait();
        onlySleepersAreAskedFor();
        oneAloneAboveCurrent();
        nobodyBesideOneAboveCurrent();
        togetherAtMostCurrent();
        oneAboveAtTheSameTime();
        oneThatCannotRiseWaitsOn();
        roomIsFreeInTheSameTick();
        lessCurrentWhileOneRises();
        is.end();
    }

    private static void ticksFrom1To200() {
        SleepingIslands x = Checks.asleep("1,1;1,1>0", 0);
        is.due("9: pass(1)", x.pass(1), 1);
        is.due("9: count(9)", x.count(9), 2);
        is.due("9: pass(200)", x.pass(200), 200);
        is.due("9: count(9) then", x.count(9), 202);
        is.due("9: pass(199)", x.pass(199), 199);
        int[] bad = {0, 201, -1, 202, 256, 257, BIG, SMALL};
        for (int b : bad) {
            is.due("9: pass(" + b + ")", x.pass(b), -2);
            is.due("9: count(9) stays", x.count(9), 401);
            is.due("9: count(7) stays", x.count(7), 400);
        }
    }

    private static void noiseFromNoneToTheMost() {
        SleepingIslands none = Checks.asleep("i1,1;1,1>0", 0);
        is.due("9: pass(200) behind an isolator", none.pass(200), 0);
        is.due("9: of(1, 1) behind an isolator", none.of(1, 1), 0);
        // Four read four that sleep: more noise than sixteen in a tick there cannot be.
        SleepingIslands most = Checks.asleep("1,1;1,1;1,1;1,1;1,1>0>1>2>3;1,1>0>1>2>3;1,1>0>1>2>3;1,1>0>1>2>3", 0, 1, 2, 3);
        is.due("9: pass(1) with sixteen", most.pass(1), 16);
        is.due("9: pass(200) with sixteen", most.pass(200), 3200);
        is.due("9: of(4, 12)", most.of(4, 12), 804);
        is.due("9: count(7)", most.count(7), 3216);
        SleepingIslands seven = Checks.asleep("1,1;1,1;1,1;1,1;1,1;1,1;1,1;1,1>0>1>2>3>4>5>6", 0, 1, 2, 3, 4, 5, 6);
        is.due("9: pass(200) of one that reads seven", seven.pass(200), 1400);
    }

    private static void leftOverBy256() {
        int[][] values = {{255, 0, 255}, {255, 1, 0}, {254, 1, 255}, {128, 127, 255}, {128, 128, 0}, {0, 255, 255}, {1, 255, 0},
            {255, 255, 254}, {0, 0, 0}};
        for (int[] v : values) {
            SleepingIslands x = Checks.chip("1,1>1;1,1");
            x.value(0, v[0]);
            x.value(1, v[1]);
            x.pass(1);
            is.due("9: " + v[0] + " and " + v[1] + " together", x.of(0, 1), v[2]);
            is.due("9: of(1, 1) stays", x.of(1, 1), v[1]);
        }
        SleepingIslands eight = Checks.chip("1,1>1>2>3>4>5>6>7;1,1;1,1;1,1;1,1;1,1;1,1;1,1");
        for (int island = 0; island < 8; island++) {
            eight.value(island, 255);
        }
        eight.pass(1);
        is.due("9: eight times 255 together", eight.of(0, 1), 248);
        for (int island = 0; island < 8; island++) {
            eight.value(island, 32);
        }
        eight.pass(1);
        is.due("9: eight times 32 together", eight.of(0, 1), 0);
    }

    private static void noiseIsLeftOverBy256Too() {
        SleepingIslands x = Checks.asleep("1,1;1,1>0", 0);
        x.value(1, 0);
        x.pass(1);
        is.due("9: 0 and noise together", x.of(1, 1), 255);
        x.pass(1);
        is.due("9: 255 and noise together", x.of(1, 1), 254);
        x.value(1, 1);
        x.pass(1);
        is.due("9: 1 and noise together", x.of(1, 1), 0);
        x.pass(200);
        is.due("9: noise in 200 ticks together", x.of(1, 1), 56);
    }

    private static void wrapsAgainAndAgain() {
        SleepingIslands x = Checks.chip("1,1>1;1,1");
        x.value(1, 1);
        x.pass(200);
        is.due("9: of(0, 1) behind 200 ticks", x.of(0, 1), 200);
        x.pass(55);
        is.due("9: of(0, 1) behind 255 ticks", x.of(0, 1), 255);
        x.pass(1);
        is.due("9: of(0, 1) behind 256 ticks", x.of(0, 1), 0);
        x.pass(1);
        is.due("9: of(0, 1) behind 257 ticks", x.of(0, 1), 1);
    }

    private static void oneThatReadsNothingKeepsItsValue() {
        SleepingIslands x = Checks.chip("1,1;1,1");
        x.value(0, 255);
        is.due("9: pass(200)", x.pass(200), 0);
        is.due("9: of(0, 1)", x.of(0, 1), 255);
        is.due("9: of(1, 1)", x.of(1, 1), 0);
    }

    private static void allByTheBeginningOfTheTick() {
        SleepingIslands x = Checks.chip("1,1>7;1,1>0;1,1>1;1,1>2;1,1>3;1,1>4;1,1>5;1,1>6");
        for (int island = 0; island < 8; island++) {
            x.value(island, 1 << island);
        }
        x.pass(1);
        for (int island = 0; island < 8; island++) {
            is.due("9: of(" + island + ", 1)", x.of(island, 1), (1 << island) + (1 << (island + 7) % 8));
        }
    }

    private static void fallingTakesOneTick() {
        SleepingIslands x = Checks.chip("1,1;1,1>0");
        x.value(0, 7);
        x.sleep(0);
        is.due("9: of(0, 0) ahead of the tick", x.of(0, 0), 1);
        is.due("9: of(0, 9) ahead of the tick", x.of(0, 9), 7);
        is.due("9: pass(1): it still tells its value", x.pass(1), 0);
        is.due("9: of(1, 1)", x.of(1, 1), 7);
        is.due("9: of(0, 0) behind the tick", x.of(0, 0), 2);
        is.due("9: of(0, 1) behind the tick", x.of(0, 1), 0);
        is.due("9: pass(1): now it is noise", x.pass(1), 1);
        is.due("9: of(1, 1) then", x.of(1, 1), 6);
        is.due("9: pass(200): it sleeps on", x.pass(200), 200);
        is.due("9: of(0, 0) at the end", x.of(0, 0), 2);
    }

    private static void valuesThatAreLost() {
        int[] values = {0, 1, 255};
        for (int value : values) {
            SleepingIslands x = Checks.chip("1,1");
            x.value(0, value);
            x.sleep(0);
            is.due("9: count(8) while " + value + " falls", x.count(8), 0);
            x.pass(1);
            is.due("9: count(8): whether " + value + " was lost", x.count(8), value > 0 ? 1 : 0);
            is.due("9: of(0, 1) behind " + value, x.of(0, 1), 0);
            is.due("9: of(0, 2) behind " + value, x.of(0, 2), 0);
            x.wake(0);
            x.pass(2);
            is.due("9: of(0, 0) behind " + value, x.of(0, 0), 0);
            is.due("9: of(0, 1) awake again behind " + value, x.of(0, 1), 0);
        }
        SleepingIslands all = Checks.chip(EIGHT);
        for (int island = 0; island < 8; island++) {
            all.value(island, 1);
            all.sleep(island);
        }
        all.pass(1);
        is.due("9: count(8) of eight", all.count(8), 8);
    }

    private static void valuesThatAreKept() {
        int[] values = {0, 1, 255};
        for (int value : values) {
            SleepingIslands x = Checks.chip("k1,1");
            x.value(0, value);
            x.sleep(0);
            is.due("9: of(0, 2) while " + value + " falls", x.of(0, 2), 0);
            x.pass(1);
            is.due("9: of(0, 2) behind " + value, x.of(0, 2), value);
            is.due("9: of(0, 1) behind " + value, x.of(0, 1), 0);
            is.due("9: count(8) behind " + value, x.count(8), 0);
            x.wake(0);
            x.pass(1);
            is.due("9: of(0, 1) while it rises", x.of(0, 1), 0);
            x.pass(1);
            is.due("9: of(0, 1) awake again", x.of(0, 1), value);
            is.due("9: of(0, 2) awake again", x.of(0, 2), value);
        }
    }

    private static void riseOf1AndOf9() {
        for (int rise = 1; rise <= 9; rise++) {
            SleepingIslands x = Checks.asleep(rise + ",1", 0);
            x.wake(0);
            is.due("9: of(0, 10) while it waits", x.of(0, 10), 0);
            x.pass(1);
            is.due("9: of(0, 10): all of them are left", x.of(0, 10), rise);
            if (rise > 1) {
                x.pass(rise - 1);
            }
            is.due("9: of(0, 0) a tick too early, rise " + rise, x.of(0, 0), 4);
            is.due("9: of(0, 10): the last one is left", x.of(0, 10), 1);
            x.pass(1);
            is.due("9: of(0, 0) in time, rise " + rise, x.of(0, 0), 0);
            is.due("9: of(0, 10): none is left", x.of(0, 10), 0);
        }
    }

    private static void askingOffAndOn() {
        SleepingIslands x = Checks.asleep("1,1;1,1>0", 0);
        x.pass(200);
        is.due("9: of(0, 0) with ASKING 0", x.of(0, 0), 2);
        x.set(1, 1);
        is.due("9: of(0, 0) ahead of a tick", x.of(0, 0), 2);
        x.pass(1);
        is.due("9: of(0, 0) with ASKING 1", x.of(0, 0), 4);
    }

    private static void askedByAscendingNumbers() {
        SleepingIslands x = Checks.asleep("1,20;1,20;1,20;1,20;1,20;1,20;1,20;1,1>6>5>4>3>2>1>0", 6, 5, 4, 3, 2, 1, 0);
        x.set(1, 1);
        x.pass(1);
        is.due("9: count(4): the first rises", x.count(4), 1);
        for (int place = 0; place < 6; place++) {
            is.due("9: waiting(" + place + ")", x.waiting(place), place + 1);
        }
        is.due("9: waiting(6)", x.waiting(6), -1);
    }

    private static void theFirstAndTheLastAsk() {
        SleepingIslands x = Checks.asleep("1,1>7;1,1;1,1;1,1;1,1;1,1;1,1;1,1", 7);
        x.set(1, 1);
        x.pass(1);
        is.due("9: of(7, 0): the first asks for the last", x.of(7, 0), 4);
        SleepingIslands y = Checks.asleep("1,1;1,1;1,1;1,1;1,1;1,1;1,1;1,1>0", 0);
        y.set(1, 1);
        y.pass(1);
        is.due("9: of(0, 0): the last asks for the first", y.of(0, 0), 4);
    }

    private static void askedBehindThoseThatWait() {
        SleepingIslands x = Checks.asleep("1,20;1,20;1,20;9,20;1,1>0>1", 0, 1, 2, 3);
        x.set(1, 1);
        Checks.wake(x, 3, 2);
        x.pass(1);
        is.due("9: waiting(0): 2 was ordered ahead of the tick", x.waiting(0), 2);
        is.due("9: waiting(1)", x.waiting(1), 0);
        is.due("9: waiting(2)", x.waiting(2), 1);
        x.pass(1);
        is.due("9: count(3): those that wait are not ordered again", x.count(3), 7);
        is.due("9: waiting(3)", x.waiting(3), -1);
    }

    private static void onlySleepersAreAskedFor() {
        SleepingIslands x = Checks.asleep("3,20;1,20;1,20;1,1>0>1>2>4;1,1", 0, 1);
        x.wake(0);
        x.wake(1);
        x.pass(1);
        x.set(1, 1);
        x.sleep(2);
        x.pass(1);
        is.due("9: of(0, 10): the rising one rises on", x.of(0, 10), 2);
        is.due("9: waiting(0): the waiting one waits on", x.waiting(0), 1);
        is.due("9: waiting(1): the one that fell is asked for", x.waiting(1), 2);
        is.due("9: of(4, 0): the awake one is awake", x.of(4, 0), 0);
        is.due("9: waiting(2)", x.waiting(2), -1);
    }

    private static void oneAloneAboveCurrent() {
        int[] currents = {1, 19, 20, 60};
        for (int current : currents) {
            SleepingIslands x = Checks.asleep("1,20", 0);
            x.set(0, current);
            x.wake(0);
            x.pass(1);
            is.due("9: count(4): 20 alone with " + current, x.count(4), 1);
            is.due("9: count(5)", x.count(5), 20);
        }
        SleepingIslands two = Checks.asleep("1,2", 0);
        two.set(0, 1);
        two.wake(0);
        two.pass(1);
        is.due("9: count(4): 2 alone with 1", two.count(4), 1);
    }

    private static void nobodyBesideOneAboveCurrent() {
        SleepingIslands x = Checks.asleep("2,2;1,1;1,1", 0, 1, 2);
        x.set(0, 1);
        Checks.wake(x, 0, 1, 2);
        x.pass(1);
        is.due("9: count(4): 2 alone", x.count(4), 1);
        x.pass(1);
        is.due("9: count(4): 2 still alone", x.count(4), 1);
        x.pass(1);
        is.due("9: count(4): 1 alone", x.count(4), 2);
        is.due("9: waiting(0)", x.waiting(0), 2);
    }

    private static void togetherAtMostCurrent() {
        int[][] loads = {{1, 1, 2}, {10, 10, 20}, {19, 1, 20}, {20, 1, 21}, {20, 20, 40}};
        for (int[] l : loads) {
            for (int current = l[2] - 1; current <= l[2] + 1; current++) {
                SleepingIslands x = Checks.asleep("1," + l[0] + ";1," + l[1], 0, 1);
                x.set(0, current);
                Checks.wake(x, 0, 1);
                x.pass(1);
                String name = l[0] + " and " + l[1] + " with " + current;
                is.due("9: count(4): " + name, x.count(4), current < l[2] ? 1 : 3);
                is.due("9: count(3): " + name, x.count(3), current < l[2] ? 2 : 0);
                is.due("9: count(5): " + name, x.count(5), current < l[2] ? l[0] : l[2]);
            }
        }
        SleepingIslands three = Checks.asleep("1,20;1,20;1,20;1,1", 0, 1, 2, 3);
        three.set(0, 60);
        Checks.wake(three, 0, 1, 2, 3);
        three.pass(1);
        is.due("9: count(4): three times 20 with 60", three.count(4), 7);
        is.due("9: count(5): three times 20 with 60", three.count(5), 60);
        is.due("9: waiting(0): no room for the 1", three.waiting(0), 3);
    }

    /** Both rules about the same queue: a great one passes nobody, and is passed by a small one. */
    private static void oneAboveAtTheSameTime() {
        SleepingIslands x = Checks.asleep("1,3;1,20;1,2", 0, 1, 2);
        x.set(0, 5);
        Checks.wake(x, 0, 1, 2);
        x.pass(1);
        is.due("9: count(4): 3 and 2, but not 20", x.count(4), 5);
        is.due("9: waiting(0)", x.waiting(0), 1);
        x.pass(1);
        is.due("9: count(4): 20 alone", x.count(4), 2);
    }

    private static void oneThatCannotRiseWaitsOn() {
        SleepingIslands x = Checks.asleep("9,10;1,11;1,11;1,10;1,1", 0, 1, 2, 3, 4);
        Checks.wake(x, 0, 2, 1, 3, 4);
        x.pass(1);
        is.due("9: count(4): 10 and 10", x.count(4), 9);
        is.due("9: waiting(0)", x.waiting(0), 2);
        is.due("9: waiting(1)", x.waiting(1), 1);
        is.due("9: waiting(2)", x.waiting(2), 4);
        x.pass(1);
        is.due("9: count(4): 10 and 1", x.count(4), 17);
        x.pass(7);
        is.due("9: waiting(0) seven ticks later", x.waiting(0), 2);
        is.due("9: waiting(1) seven ticks later", x.waiting(1), 1);
        is.due("9: of(0, 10)", x.of(0, 10), 1);
        x.pass(1);
        is.due("9: count(4): the one that was ordered first", x.count(4), 4);
        is.due("9: waiting(0) then", x.waiting(0), 1);
    }

    private static void roomIsFreeInTheSameTick() {
        SleepingIslands x = Checks.asleep("1,20;1,20", 0, 1);
        Checks.wake(x, 0, 1);
        x.pass(1);
        x.pass(1);
        is.due("9: of(0, 0)", x.of(0, 0), 0);
        is.due("9: of(1, 0): it rises in the tick in which the other is awake", x.of(1, 0), 4);
        is.due("9: of(1, 10): its first tick is still to come", x.of(1, 10), 1);
    }

    private static void lessCurrentWhileOneRises() {
        SleepingIslands x = Checks.asleep("3,20;3,20;1,1", 0, 1, 2);
        x.set(0, 40);
        Checks.wake(x, 0, 1);
        x.pass(1);
        x.set(0, 1);
        x.wake(2);
        x.pass(1);
        is.due("9: count(4): those that rise rise on", x.count(4), 3);
        is.due("9: of(0, 10)", x.of(0, 10), 2);
        is.due("9: waiting(0): none beside them", x.waiting(0), 2);
        x.pass(2);
        is.due("9: count(4) then", x.count(4), 4);
    }
}
