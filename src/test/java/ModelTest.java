/** All promises: long runs of calls on a new object, each answer compared with that of {@link Model}. */
public final class ModelTest {
    private static final int RUNS = 400, CALLS = 512;
    private static final Checks is = new Checks();
    private static final int[] WILD = {Integer.MIN_VALUE, Integer.MAX_VALUE, -1, 0, 1, 2, 8, 9, 21, 32, 61, 201, 256, -2147483640};
    private static final String[] PIECES = {"i", "k", "ik", "1,1", "2,9", "9,20", "3,10", "1,5>0", "4,12>1", "1,1;", "i2,8>1;", "k1,15>2;",
        "ik2,3>0>2;", ";", ">", ",", ">1", ">3", ">7", "0", "21", "x"};

    /** The same numbers in each run of the test. */
    private long seed;

    private SleepingIslands x = new SleepingIslands();
    private Model model = new Model();
    private String run = "";
    private int calls = 0;

    private ModelTest(long seed) {
        this.seed = seed * 7919 + 17;
    }

    public static void main(String[] args) {
        for (int run = 0; run < RUNS; run++) {
            new ModelTest(run).go(run);
        }
        is.end();
    }

    private int below(int bound) {
        seed = seed * 6364136223846793005L + 1442695040888963407L;
        return (int) ((seed >>> 33) % bound);
    }

    /** Mostly from least to most, at times just outside, seldom anything. */
    private int number(int least, int most) {
        int luck = below(40);
        if (luck == 0) {
            return WILD[below(WILD.length)];
        }
        if (luck == 1) {
            return below(2) == 0 ? least - 1 : most + 1;
        }
        return least + below(most - least + 1);
    }

    private int island() {
        return number(0, Math.max(0, model.count(0) - 1));
    }

    private void go(int run) {
        this.run = "run " + run;
        while (calls < CALLS - 150) {
            if (run % 3 == 0 && calls == 0 || below(60) == 0) {
                putChip();
            }
            if (below(50) == 0) {
                sleepAndWakeMany();
            }
            change();
            if (below(3) == 0) {
                look();
            }
        }
        lookAtAll();
    }

    private void due(String call, int got, int want) {
        calls++;
        is.due(run + ", call " + calls + ": " + call, got, want);
    }

    private void put(String text) {
        for (int at = 0; at < text.length(); at += 8) {
            long code = Checks.code(text.substring(at, Math.min(at + 8, text.length())));
            due("put(" + code + ")", x.put(code), model.put(code));
        }
    }

    private void putChip() {
        StringBuilder text = new StringBuilder();
        int islands = 1 + below(8);
        for (int i = 0; i < islands; i++) {
            text.append(i == 0 ? "" : ";").append(below(3) == 0 ? "i" : "").append(below(3) == 0 ? "k" : "");
            text.append(1 + below(9)).append(',').append(1 + below(20));
            for (int links = below(3); links > 0; links--) {
                int other = below(islands + (below(20) == 0 ? 1 : 0));
                text.append(other == i ? "" : ">" + other);
            }
        }
        due("wipe()", x.wipe(), model.wipe());
        put(text.toString());
        due("fault()", x.fault(), model.fault());
        due("read()", x.read(), model.read());
    }

    /** So that long queues come about, too. */
    private void sleepAndWakeMany() {
        for (int island = 0; island < 8; island++) {
            due("sleep(" + island + ")", x.sleep(island), model.sleep(island));
        }
        due("pass(1)", x.pass(1), model.pass(1));
        for (int many = below(10); many > 0; many--) {
            int island = below(8);
            due("wake(" + island + ")", x.wake(island), model.wake(island));
        }
    }

    private void change() {
        int luck = below(100);
        if (luck < 4) {
            int setting = number(0, 1);
            int value = setting == 1 ? number(0, 1) : number(1, 60);
            due("set(" + setting + ", " + value + ")", x.set(setting, value), model.set(setting, value));
        } else if (luck < 10) {
            boolean isolator = below(2) == 0, keeper = below(2) == 0;
            int rise = number(1, 9), load = number(1, 20);
            due("build(" + isolator + ", " + keeper + ", " + rise + ", " + load + ")", x.build(isolator, keeper, rise, load),
                model.build(isolator, keeper, rise, load));
        } else if (luck < 18) {
            int island = island(), other = island();
            boolean reads = below(3) > 0;
            due("link(" + island + ", " + other + ", " + reads + ")", x.link(island, other, reads), model.link(island, other, reads));
        } else if (luck < 26) {
            int island = island(), value = number(0, 255);
            due("value(" + island + ", " + value + ")", x.value(island, value), model.value(island, value));
        } else if (luck < 46) {
            int island = island();
            due("sleep(" + island + ")", x.sleep(island), model.sleep(island));
        } else if (luck < 60) {
            int island = island();
            due("wake(" + island + ")", x.wake(island), model.wake(island));
        } else if (luck < 80) {
            int ticks = below(10) == 0 ? number(1, 200) : number(1, 4);
            due("pass(" + ticks + ")", x.pass(ticks), model.pass(ticks));
        } else {
            changeOfAnotherKind(luck);
        }
    }

    private void changeOfAnotherKind(int luck) {
        if (luck < 84) {
            for (int many = below(6); many > 0; many--) {
                due("undo()", x.undo(), model.undo());
            }
        } else if (luck < 87) {
            int slot = number(0, 1);
            due("save(" + slot + ")", x.save(slot), model.save(slot));
        } else if (luck < 89) {
            int slot = number(0, 1);
            due("restore(" + slot + ")", x.restore(slot), model.restore(slot));
        } else if (luck < 94) {
            put(PIECES[below(PIECES.length)]);
            due("fault()", x.fault(), model.fault());
        } else if (luck < 96) {
            long code = (long) below(1 << 30) << 34 ^ (long) below(1 << 30) << 8 ^ below(1 << 10);
            code = below(2) == 0 ? code : code & 0x7F7FL;
            due("put(" + code + ")", x.put(code), model.put(code));
        } else if (luck < 98) {
            due("wipe()", x.wipe(), model.wipe());
        } else {
            due("read()", x.read(), model.read());
        }
    }

    private void look() {
        int island = island(), what = number(0, 12), which = number(0, 13), place = number(0, 7);
        due("of(" + island + ", " + what + ")", x.of(island, what), model.of(island, what));
        due("count(" + which + ")", x.count(which), model.count(which));
        due("waiting(" + place + ")", x.waiting(place), model.waiting(place));
        int luck = below(6);
        if (luck < 2) {
            int ticks = number(1, luck == 0 ? 10 : 200), about = number(0, 3);
            due("ifPassed(" + ticks + ", " + about + ")", x.ifPassed(ticks, about), model.ifPassed(ticks, about));
        } else if (luck == 2) {
            due("allAwake()", x.allAwake(), model.allAwake());
        } else if (luck == 3 && below(4) == 0) {
            int ticks = below(4) == 0 ? number(0, 200) : Math.max(0, model.allAwake() + below(6) - 3);
            due("leastCurrent(" + ticks + ")", x.leastCurrent(ticks), model.leastCurrent(ticks));
        } else {
            int ticks = number(1, luck == 4 ? 5 : 50);
            due("quiet(" + ticks + ")", x.quiet(ticks), model.quiet(ticks));
        }
    }

    private void lookAtAll() {
        for (int what = 0; what < 14; what++) {
            due("count(" + what + ")", x.count(what), model.count(what));
        }
        for (int island = 0; island < 7; island++) {
            for (int what = 0; what < 13; what++) {
                due("of(" + island + ", " + what + ")", x.of(island, what), model.of(island, what));
            }
        }
    }
}
