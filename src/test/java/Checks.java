/** Counts and prints the answers that are not due; each test's main ends with {@link #end()}. */
final class Checks {
    private int asked = 0;
    private int wrong = 0;

    void due(String call, long got, long want) {
        asked++;
        if (got != want) {
            wrong++;
            System.out.println(call + " answered " + got + ", due is " + want);
        }
    }

    void end() {
        System.out.println(wrong == 0 ? asked + " answers, all as due" : wrong + " of " + asked + " answers are not as due");
        if (wrong != 0) {
            System.exit(1);
        }
    }

    /** Appends a text to the pad, eight characters a call. */
    static void put(SleepingIslands x, String text) {
        for (int at = 0; at < text.length(); at += 8) {
            x.put(code(text.substring(at, Math.min(at + 8, text.length()))));
        }
    }

    /** The number by which put takes up to eight characters. */
    static long code(String text) {
        long code = 0;
        for (int at = 0; at < text.length(); at++) {
            code = code << 8 | text.charAt(at);
        }
        return code;
    }

    /** A new object with the chip of a text. */
    static SleepingIslands chip(String text) {
        SleepingIslands x = new SleepingIslands();
        put(x, text);
        x.read();
        return x;
    }

    /** Orders an island to sleep and lets the tick pass in which it falls. */
    static void sleepFully(SleepingIslands x, int island) {
        x.sleep(island);
        x.pass(1);
    }

    /** Every answer that tells of the present, as one text: it must stay as it is behind a call that fails. */
    static String look(SleepingIslands x) {
        StringBuilder all = new StringBuilder();
        for (int what = 0; what < 14; what++) {
            all.append(x.count(what)).append(' ');
        }
        for (int island = 0; island < 8; island++) {
            for (int what = 0; what < 13; what++) {
                all.append(x.of(island, what)).append(' ');
            }
            all.append(x.waiting(island)).append('|');
        }
        return all.append(x.fault()).toString();
    }

    /** Checks that a call, made between the two looks, changed nothing. */
    void same(String call, String before, SleepingIslands x) {
        due(call + ": what is changed", look(x).equals(before) ? 0 : 1, 0);
    }
}
