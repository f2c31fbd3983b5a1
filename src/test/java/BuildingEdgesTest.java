/** The boundary cases of "Settings", "Islands" and promises 1 to 5. */
public final class BuildingEdgesTest {
    private static final Checks is = new Checks();
    private static final int BIG = Checks.BIG, SMALL = Checks.SMALL;
    private static final String EIGHT = "1,1;1,1;1,1;1,1;1,1;1,1;1,1;1,1";

    public static void main(String[] args) {
        firstSettings();
        currentFrom1To60();
        askingIs0Or1();
        noOtherSetting();
        riseFrom1To9();
        loadFrom1To20();
        riseAndLoadBothBad();
        upTo8Islands();
        roomBehindUndoReadAndRestore();
        aNewIslandIsNew();
        chipWithoutIslands();
        readOfOneAndOfEight();
        readOfThePadOf64();
        readOfFaults();
        readOfNumbersThatAreNotThere();
        readSetsAllBack();
        linkOfAllPairs();
        linkOfNumbersThatAreNotThere();
        linkToItself();
        linkThatIsSoAlready();
        is.end();
    }

    private static void firstSettings() {
        is.due("2: CURRENT at first", new SleepingIslands().set(0, 1), 20);
        is.due("2: ASKING at first", new SleepingIslands().set(1, 1), 0);
        is.due("2: count(10) at first", new SleepingIslands().count(10), 20);
        is.due("2: count(11) at first", new SleepingIslands().count(11), 0);
    }

    private static void currentFrom1To60() {
        SleepingIslands x = new SleepingIslands();
        int previous = 20;
        for (int current = 1; current <= 60; current++) {
            is.due("2: set(0, " + current + ")", x.set(0, current), previous);
            is.due("2: count(10)", x.count(10), current);
            previous = current;
        }
        int[] bad = {0, 61, -1, 62, 255, 256, 257, BIG, SMALL};
        for (int b : bad) {
            is.due("2: set(0, " + b + ")", x.set(0, b), -2);
            is.due("2: count(10) stays", x.count(10), 60);
        }
        is.due("2: set(0, 1): the previous one is the last allowed one", x.set(0, 1), 60);
        is.due("2: set(0, 0) from 1", x.set(0, 0), -2);
        is.due("2: count(10) stays 1", x.count(10), 1);
    }

    private static void askingIs0Or1() {
        SleepingIslands x = new SleepingIslands();
        is.due("2: set(1, 0)", x.set(1, 0), 0);
        is.due("2: set(1, 1)", x.set(1, 1), 0);
        int[] bad = {-1, 2, 3, 20, 256, 257, BIG, SMALL};
        for (int b : bad) {
            is.due("2: set(1, " + b + ")", x.set(1, b), -2);
            is.due("2: count(11) stays", x.count(11), 1);
        }
        is.due("2: set(1, 0) from 1", x.set(1, 0), 1);
        is.due("2: set(1, -1) from 0", x.set(1, -1), -2);
        is.due("2: count(11) stays 0", x.count(11), 0);
    }

    private static void noOtherSetting() {
        SleepingIslands x = new SleepingIslands();
        int[] bad = {-1, 2, 3, 256, 257, BIG, SMALL};
        for (int b : bad) {
            is.due("2: set(" + b + ", 0)", x.set(b, 0), -2);
            is.due("2: set(" + b + ", 1)", x.set(b, 1), -2);
            is.due("2: set(" + b + ", 20)", x.set(b, 20), -2);
        }
        is.due("2: count(10)", x.count(10), 20);
        is.due("2: count(11)", x.count(11), 0);
        is.due("2: count(13)", x.count(13), 0);
    }

    private static void riseFrom1To9() {
        for (int rise = 1; rise <= 9; rise++) {
            SleepingIslands x = new SleepingIslands();
            is.due("3: build with rise " + rise, x.build(false, false, rise, 1), 0);
            is.due("3: of(0, 5)", x.of(0, 5), rise);
        }
        int[] bad = {0, 10, -1, 11, 257, BIG, SMALL};
        for (int b : bad) {
            SleepingIslands x = new SleepingIslands();
            is.due("3: build with rise " + b, x.build(false, false, b, 1), -2);
            is.due("3: count(0)", x.count(0), 0);
        }
    }

    private static void loadFrom1To20() {
        for (int load = 1; load <= 20; load++) {
            SleepingIslands x = new SleepingIslands();
            is.due("3: build with load " + load, x.build(false, false, 1, load), 0);
            is.due("3: of(0, 6)", x.of(0, 6), load);
        }
        int[] bad = {0, 21, -1, 22, 257, BIG, SMALL};
        for (int b : bad) {
            SleepingIslands x = new SleepingIslands();
            is.due("3: build with load " + b, x.build(false, false, 1, b), -2);
            is.due("3: count(0)", x.count(0), 0);
        }
    }

    private static void riseAndLoadBothBad() {
        SleepingIslands x = new SleepingIslands();
        is.due("3: build(true, true, 0, 0)", x.build(true, true, 0, 0), -2);
        is.due("3: build(true, true, 10, 21)", x.build(true, true, 10, 21), -2);
        is.due("3: build(true, true, 9, 20): both the last allowed", x.build(true, true, 9, 20), 0);
        is.due("3: build(true, true, 1, 1): both the first allowed", x.build(true, true, 1, 1), 1);
    }

    private static void upTo8Islands() {
        SleepingIslands x = new SleepingIslands();
        for (int number = 0; number < 8; number++) {
            is.due("3: of(" + number + ", 0) ahead", x.of(number, 0), -1);
            is.due("3: build of " + number, x.build(false, false, 1, 1), number);
            is.due("3: of(" + number + ", 0) behind", x.of(number, 0), 0);
            is.due("3: count(0)", x.count(0), number + 1);
        }
        is.due("3: build of a ninth", x.build(false, false, 1, 1), -4);
        is.due("3: build of a ninth, again", x.build(true, true, 9, 20), -4);
        is.due("3: count(0) of eight", x.count(0), 8);
        is.due("3: of(8, 0)", x.of(8, 0), -1);
        is.due("3: count(1) of eight", x.count(1), 255);
    }

    private static void roomBehindUndoReadAndRestore() {
        SleepingIslands x = Checks.chip("1,1;1,1;1,1;1,1;1,1;1,1;1,1");
        x.save(0);
        is.due("3: the eighth behind read", x.build(false, false, 1, 1), 7);
        is.due("3: the ninth behind read", x.build(false, false, 1, 1), -4);
        x.undo();
        is.due("3: the eighth behind undo", x.build(false, false, 1, 1), 7);
        is.due("3: the ninth behind undo", x.build(false, false, 1, 1), -4);
        x.restore(0);
        is.due("3: the eighth behind restore", x.build(false, false, 1, 1), 7);
        is.due("3: the ninth behind restore", x.build(false, false, 1, 1), -4);
        Checks.put(x, EIGHT);
        x.read();
        is.due("3: the ninth behind read of eight", x.build(false, false, 1, 1), -4);
    }

    /** Nothing is left of one that had the number and was undone. */
    private static void aNewIslandIsNew() {
        SleepingIslands x = Checks.chip("1,1;1,1");
        x.build(true, true, 9, 20);
        x.link(2, 0, true);
        x.value(2, 255);
        x.sleep(2);
        x.pass(1);
        x.wake(2);
        for (int change = 0; change < 6; change++) {
            x.undo();
        }
        is.due("3: build anew", x.build(false, false, 2, 3), 2);
        int[] due = {0, 0, 0, 0, 0, 2, 3, 0, 0, 0, 0, -6, 0};
        for (int what = 0; what < 13; what++) {
            is.due("3: of(2, " + what + ") anew", x.of(2, what), due[what]);
        }
        is.due("3: waiting(0) anew", x.waiting(0), -1);
    }

    private static void chipWithoutIslands() {
        SleepingIslands x = new SleepingIslands();
        is.due("1: pass(200) without islands", x.pass(200), 0);
        is.due("1: count(9)", x.count(9), 200);
        for (int what = 0; what < 9; what++) {
            is.due("1: count(" + what + ") without islands", x.count(what), 0);
        }
        is.due("1: allAwake() without islands", x.allAwake(), 0);
        is.due("1: quiet(50) without islands", x.quiet(50), 0);
        is.due("1: save(0) without islands", x.save(0), 0);
        is.due("1: wipe() of a new one", x.wipe(), 0);
        is.due("1: fault() of a new one", x.fault(), 0);
    }

    private static void readOfOneAndOfEight() {
        SleepingIslands x = new SleepingIslands();
        Checks.put(x, "1,1");
        is.due("4: read() of one", x.read(), 1);
        is.due("4: of(0, 0)", x.of(0, 0), 0);
        is.due("4: of(1, 0)", x.of(1, 0), -1);
        Checks.put(x, EIGHT);
        is.due("4: read() of eight", x.read(), 8);
        is.due("4: of(7, 0)", x.of(7, 0), 0);
        is.due("4: of(8, 0)", x.of(8, 0), -1);
        Checks.put(x, "9,20");
        is.due("4: read() of one in place of eight", x.read(), 1);
        is.due("4: of(1, 0) then", x.of(1, 0), -1);
        is.due("4: of(7, 0) then", x.of(7, 0), -1);
        is.due("4: count(1) then", x.count(1), 1);
        is.due("4: undo()", x.undo(), 2);
        is.due("4: count(1) undone", x.count(1), 255);
    }

    private static void readOfThePadOf64() {
        SleepingIslands x = new SleepingIslands();
        Checks.put(x, "ik9,20>1;ik9,20>2;ik9,20>3;ik9,20>4;ik9,20>5;ik9,20>6;ik9,20;1,1");
        is.due("4: count(12)", x.count(12), 64);
        is.due("4: read() of 64 characters", x.read(), 8);
        is.due("4: count(12) is empty then", x.count(12), 0);
        is.due("4: of(5, 7)", x.of(5, 7), 64);
        is.due("4: of(6, 6)", x.of(6, 6), 20);
        is.due("4: of(6, 7)", x.of(6, 7), 0);
        is.due("4: of(7, 3)", x.of(7, 3), 0);
        is.due("4: of(7, 6): the last character", x.of(7, 6), 1);
        is.due("4: put() into the empty pad", x.put('1'), 1);
    }

    private static void readOfFaults() {
        String[] texts = {"", "1", "1,", "1,1;", "1,1>", "0,1", "1,21", "1,01", "1,1>0", "1,1>8", EIGHT + ";", EIGHT + ";1,1"};
        for (String text : texts) {
            SleepingIslands x = Checks.chip("5,5;6,6");
            Checks.put(x, text);
            is.due("4: read() of " + text, x.read(), -3);
            is.due("4: the chip stays behind " + text, x.count(0), 2);
            is.due("4: the pad stays behind " + text, x.count(12), text.length());
            is.due("4: the history stays behind " + text, x.count(13), 1);
        }
    }

    private static void readOfNumbersThatAreNotThere() {
        for (int islands = 1; islands < 8; islands++) {
            String others = EIGHT.substring(0, 4 * (islands - 1));
            SleepingIslands x = new SleepingIslands();
            Checks.put(x, others + "1,1>" + islands);
            is.due("4: read() of " + islands + ", the last one reads the next one", x.read(), -1);
            is.due("4: the pad stays", x.count(12), others.length() + 5);
            x.wipe();
            Checks.put(x, "1,1>" + islands + ";" + EIGHT.substring(0, 4 * islands - 1));
            is.due("4: read() of " + (islands + 1) + ", the first one reads the last one", x.read(), islands + 1);
            is.due("4: of(0, 7)", x.of(0, 7), 1 << islands);
        }
        SleepingIslands x = new SleepingIslands();
        Checks.put(x, EIGHT.substring(0, 4 * 6) + "1,1>7");
        is.due("4: read() of seven with a 7", x.read(), -1);
    }

    private static void readSetsAllBack() {
        SleepingIslands x = Checks.asleep("1,20;k1,1;1,1>0", 0, 1);
        x.set(0, 60);
        x.set(1, 1);
        x.wake(1);
        x.pass(200);
        x.value(2, 255);
        Checks.put(x, "1,1;1,1;1,1");
        is.due("4: read()", x.read(), 3);
        int[] due = {3, 7, 0, 0, 0, 0, 0, 0, 0, 0, 60, 1, 0, 6};
        for (int what = 0; what < due.length; what++) {
            is.due("4: count(" + what + ")", x.count(what), due[what]);
        }
        int[] island = {0, 0, 0, 0, 0, 1, 1, 0, 0, 0, 0, -6, 0};
        for (int what = 0; what < island.length; what++) {
            is.due("4: of(2, " + what + ")", x.of(2, what), island[what]);
        }
    }

    private static void linkOfAllPairs() {
        for (int island = 0; island < 8; island++) {
            SleepingIslands x = Checks.chip(EIGHT);
            int set = 0;
            for (int other = 0; other < 8; other++) {
                set |= other == island ? 0 : 1 << other;
                is.due("5: link(" + island + ", " + other + ", true)", x.link(island, other, true), other == island ? -2 : set);
            }
            is.due("5: all but itself", x.of(island, 7), 255 - (1 << island));
            for (int other = 0; other < 8; other++) {
                set &= ~(1 << other);
                is.due("5: link(" + island + ", " + other + ", false)", x.link(island, other, false), other == island ? -2 : set);
            }
            is.due("5: none at the end", x.of(island, 7), 0);
        }
    }

    private static void linkOfNumbersThatAreNotThere() {
        for (int islands = 1; islands <= 8; islands++) {
            SleepingIslands x = Checks.chip(EIGHT.substring(0, 4 * islands - 1));
            int[] none = {islands, islands + 1, islands + 8, 31, 32, 33, -1, BIG, SMALL};
            for (int n : none) {
                is.due("5: link(" + n + ", 0, true) of " + islands, x.link(n, 0, true), -1);
                is.due("5: link(0, " + n + ", true) of " + islands, x.link(0, n, true), -1);
                is.due("5: link(0, " + n + ", false) of " + islands, x.link(0, n, false), -1);
            }
            if (islands > 1) {
                is.due("5: link(last, 0, true) of " + islands, x.link(islands - 1, 0, true), 1);
                is.due("5: link(0, last, true) of " + islands, x.link(0, islands - 1, true), 1 << islands - 1);
            }
        }
    }

    private static void linkToItself() {
        SleepingIslands x = Checks.chip(EIGHT);
        for (int island = 0; island < 8; island++) {
            is.due("5: link(" + island + ", " + island + ", true)", x.link(island, island, true), -2);
            is.due("5: link(" + island + ", " + island + ", false)", x.link(island, island, false), -2);
            is.due("5: of(" + island + ", 7)", x.of(island, 7), 0);
        }
        is.due("5: count(13)", x.count(13), 1);
    }

    private static void linkThatIsSoAlready() {
        SleepingIslands x = Checks.chip("1,1;1,1>0;1,1");
        is.due("5: link(1, 0, true) of a text", x.link(1, 0, true), -5);
        is.due("5: link(0, 1, false): the other way is not so", x.link(0, 1, false), -5);
        is.due("5: link(0, 1, true)", x.link(0, 1, true), 2);
        is.due("5: link(0, 1, true) again", x.link(0, 1, true), -5);
        is.due("5: link(0, 1, false) now", x.link(0, 1, false), 0);
        is.due("5: link(0, 1, false) again", x.link(0, 1, false), -5);
        is.due("5: link(1, 2, false): another is read, this one is not", x.link(1, 2, false), -5);
        is.due("5: count(13)", x.count(13), 3);
    }
}
