/** Counts and prints the answers that are not due; each test's main ends with {@link #end()}. */
final class Checks {
    static final int BIG = Integer.MAX_VALUE, SMALL = Integer.MIN_VALUE;

    /** A run of calls on a new object; each time it makes another one, so that two of them can be compared. */
    interface Maker {
        SleepingIslands make();
    }

    interface Call {
        long on(SleepingIslands x);
    }

    /** What brings to light what a look does not show: the history, the slots, the text of the pad, and what comes. */
    private static final Call[] PROBES = {
        x -> 0,
        x -> undo(x, 1),
        x -> undo(x, 2),
        x -> undo(x, 3),
        x -> undo(x, 4),
        x -> undo(x, 5),
        x -> undo(x, 6),
        x -> undo(x, 7),
        x -> x.restore(0),
        x -> x.restore(1),
        x -> x.read(),
        x -> x.put('1'),
        x -> x.wipe(),
        x -> x.pass(1),
        x -> x.pass(20)};

    private int asked = 0;
    private int wrong = 0;

    void due(String call, long got, long want) {
        asked++;
        if (got != want) {
            wrong++;
            System.out.println(call + " answered " + got + ", due is " + want);
        }
    }

    void end() {
        System.out.println(wrong == 0 ? asked + " answers, all as due" : wrong + " of " + asked + " answers are not as due");
        if (wrong != 0) {
            System.exit(1);
        }
    }

    /** Appends a text to the pad, eight characters a call. */
    static void put(SleepingIslands x, String text) {
        for (int at = 0; at < text.length(); at += 8) {
            x.put(code(text.substring(at, Math.min(at + 8, text.length()))));
        }
    }

    /** The number by which put takes up to eight characters. */
    static long code(String text) {
        long code = 0;
        for (int at = 0; at < text.length(); at++) {
            code = code << 8 | text.charAt(at);
        }
        return code;
    }

    /** A new object with the chip of a text. */
    static SleepingIslands chip(String text) {
        SleepingIslands x = new SleepingIslands();
        put(x, text);
        x.read();
        return x;
    }

    /** Orders an island to sleep and lets the tick pass in which it falls. */
    static void sleepFully(SleepingIslands x, int island) {
        x.sleep(island);
        x.pass(1);
    }

    /** A new object with the chip of a text, of which some islands sleep: a tick has passed. */
    static SleepingIslands asleep(String text, int... sleepers) {
        SleepingIslands x = chip(text);
        for (int island : sleepers) {
            x.sleep(island);
        }
        x.pass(1);
        return x;
    }

    static void wake(SleepingIslands x, int... sleepers) {
        for (int island : sleepers) {
            x.wake(island);
        }
    }

    private static long undo(SleepingIslands x, int times) {
        long answers = 0;
        for (int time = 0; time < times; time++) {
            answers = answers * 31 + x.undo();
        }
        return answers;
    }

    /**
     * Every answer that tells of the present, as one text: it must stay as it is behind a call that fails. It takes 128
     * calls at most, so that three looks at one object stay below the 512 calls for which there is a promise.
     */
    static String look(SleepingIslands x) {
        StringBuilder all = new StringBuilder();
        for (int what = 0; what < 14; what++) {
            all.append(x.count(what)).append(' ');
        }
        for (int island = 0; island < 8; island++) {
            int state = x.of(island, 0);
            all.append(state).append(' ');
            for (int what = 1; what < 13 && state >= 0; what++) {
                all.append(x.of(island, what)).append(' ');
            }
            all.append(x.waiting(island)).append('|');
        }
        return all.append(x.fault()).toString();
    }

    /** Checks that a call, made between the two looks, changed nothing. */
    void same(String call, String before, SleepingIslands x) {
        due(call + ": what is changed", look(x).equals(before) ? 0 : 1, 0);
    }

    /**
     * Checks that a call answers what is due, and leaves everything as it is, also the history, the pad and the slots:
     * of two objects that are made alike one gets the call, and then both get the same probe.
     */
    void leaves(String name, Maker maker, Call call, long want) {
        due(name, call.on(maker.make()), want);
        for (int probe = 0; probe < PROBES.length; probe++) {
            SleepingIslands with = maker.make();
            SleepingIslands without = maker.make();
            call.on(with);
            due(name + ": what probe " + probe + " answers behind it", PROBES[probe].on(with), PROBES[probe].on(without));
            due(name + ": what is changed, by probe " + probe, look(with).equals(look(without)) ? 0 : 1, 0);
        }
    }
}
