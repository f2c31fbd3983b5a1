/** Promises 17 to 19: put, wipe, fault. */
public final class TextsTest {
    private static final Checks is = new Checks();

    public static void main(String[] args) {
        put();
        putKeepsTheOrder();
        putFails();
        putUpTo64();
        wipe();
        textsWithoutFault();
        textsWithFault();
        theNinthIsland();
        faultIsNoChange();
        faultLeavesNothing();
        is.end();
    }

    private static void put() {
        SleepingIslands x = new SleepingIslands();
        is.due("17: put('1')", x.put('1'), 1);
        is.due("17: put(\",1;ik9,2\")", x.put(Checks.code(",1;ik9,2")), 9);
        is.due("17: put(\"0>0\")", x.put(Checks.code("0>0")), 12);
        is.due("17: count(12)", x.count(12), 12);
        is.due("17: count(13): put is no change", x.count(13), 0);
        is.due("17: fault()", x.fault(), -6);
        is.due("17: put(33)", x.put(33), 13);
        is.due("17: put(126)", x.put(126), 14);
        is.due("17: fault() then", x.fault(), 12);
    }

    private static void putKeepsTheOrder() {
        SleepingIslands x = new SleepingIslands();
        x.put(Checks.code("i2,13>1>"));
        x.put(Checks.code("2;k4,5;6"));
        x.put(Checks.code(",7"));
        is.due("17: read()", x.read(), 3);
        is.due("17: of(0, 6)", x.of(0, 6), 13);
        is.due("17: of(0, 7)", x.of(0, 7), 6);
        is.due("17: of(1, 5)", x.of(1, 5), 4);
        is.due("17: of(2, 5)", x.of(2, 5), 6);
        is.due("17: of(2, 6)", x.of(2, 6), 7);
    }

    private static void putFails() {
        SleepingIslands x = new SleepingIslands();
        x.put(Checks.code("1,1"));
        long eight = Checks.code("12345678");
        long[] bad = {0, 32, 127, 128, 255, 1, -1, Long.MIN_VALUE, Long.MAX_VALUE, 0x3100, 0x310031, 0x3100310031L,
            0x0100000000000031L, 0x8000000000000031L, 0x3100313131313131L, 0x3120L, 0x2031L, 0x317FL, 0x7F31L,
            eight & ~255L, eight | 128, eight | 1L << 63, (eight & ~(255L << 56)) | 32L << 56, eight & ~(255L << 8)};
        for (long b : bad) {
            is.due("17: put(" + b + ")", x.put(b), -2);
        }
        is.due("17: count(12)", x.count(12), 3);
        is.due("17: fault()", x.fault(), -6);
        is.due("17: put of eight", x.put(eight), 11);
        is.due("17: put of seven", x.put(eight >>> 8), 18);
    }

    private static void putUpTo64() {
        SleepingIslands x = new SleepingIslands();
        for (int many = 1; many <= 7; many++) {
            is.due("17: put of eight", x.put(Checks.code("aaaaaaaa")), 8 * many);
        }
        is.due("17: put of one", x.put('b'), 57);
        is.due("17: put of eight above 64", x.put(Checks.code("aaaaaaaa")), -4);
        is.due("17: a bad one above 64", x.put(Checks.code("aaaaaaa ")), -2);
        is.due("17: count(12) stays", x.count(12), 57);
        is.due("17: put of seven up to 64", x.put(Checks.code("aaaaaaa")), 64);
        is.due("17: put of one above 64", x.put('a'), -4);
        is.due("17: put of none above 64", x.put(0), -2);
        is.due("17: count(12)", x.count(12), 64);
    }

    private static void wipe() {
        SleepingIslands x = new SleepingIslands();
        is.due("18: wipe() of the empty pad", x.wipe(), 0);
        Checks.put(x, "1,1;1,2;1,3");
        is.due("18: wipe()", x.wipe(), 11);
        is.due("18: count(12)", x.count(12), 0);
        is.due("18: fault()", x.fault(), 0);
        is.due("18: wipe() again", x.wipe(), 0);
        is.due("18: count(13): wipe is no change", x.count(13), 0);
        Checks.put(x, "5,5");
        is.due("18: read() of what came behind", x.read(), 1);
        is.due("18: of(0, 6)", x.of(0, 6), 5);
        Checks.put(x, "5,5");
        x.wipe();
        is.due("18: undo()", x.undo(), 0);
        is.due("18: count(12): undo leaves the pad", x.count(12), 0);
    }

    private static void fault(String text, int due) {
        SleepingIslands x = new SleepingIslands();
        Checks.put(x, text);
        is.due("19: fault() of " + text, x.fault(), due);
        is.due("19: fault() again of " + text, x.fault(), due);
        is.due("19: length of " + text, x.count(12), text.length());
        int read = x.read();
        is.due("19: whether read() takes " + text, read == -3 ? 1 : 0, due == -6 ? 0 : 1);
    }

    private static void textsWithoutFault() {
        for (int load = 1; load <= 20; load++) {
            fault("1," + load, -6);
        }
        for (int rise = 1; rise <= 9; rise++) {
            fault(rise + ",1", -6);
        }
        String[] good = {"i1,1", "k1,1", "ik1,1", "1,1>1", "1,1>1>2>3>4>5>6>7", "1,1>7>7>7", "1,20>1;1,1>0", "1,1;1,1;1,1>0>1>3",
            "1,1;1,1;1,1;1,1;1,1;1,1;1,1;1,1>6", "1,1;1,1;1,1;1,1;1,1;1,1;1,1>7",
            "ik9,20>1;ik9,20>2;ik9,20>3;ik9,20>4;ik9,20>5;ik9,20>6;ik9,20;1,1"};
        for (String text : good) {
            fault(text, -6);
        }
    }

    private static void textsWithFault() {
        String[] texts = {"", "i", "k", "ik", "1", "1,", "1,1>", "1,1>1>", "1,1;", "1,20;i", "1,1;1,1;1",
            "ki1,1", "ii1,1", "kk1,1", "iki1,1", "I1,1", "0,1", "11,1", "a", ",", ";", ">", "i,1", "k0,1", "1;", "1>",
            "1,0", "1,01", "1,21", "1,29", "1,30", "1,99", "1,100", "1,111", "1,200", "1,201", "1,x", "1,>", "1,;", "1,1,", "1,1i", "1,20i",
            "1,1>0", "1,1>8", "1,1>9", "1,1>>", "1,1>;", "1,1>x", "1,1>11", "1,1>1,", "1,1>1i", "1,1>1>0",
            "1,1;1,1>1", "1,1;;", "1,1;>0", "1,1;1,1;1,1>2", "1,1>1;1,1>0;x", "1,1;1,1;1,1;1,1;1,1;1,1;1,1;1,1>7",
            "1,1>/", "1,1>:", "/,1", ":,1", "1,/", "1,:", "1,1/", "1,1:", "!", "~"};
        int[] faults = {0, 1, 1, 2, 1, 2, 4, 6, 4, 6, 9,
            1, 1, 1, 2, 0, 0, 1, 0, 0, 0, 0, 1, 1, 1, 1,
            2, 2, 3, 3, 3, 3, 4, 4, 4, 4, 2, 2, 2, 3, 3, 4,
            4, 4, 4, 4, 4, 4, 5, 5, 5, 6,
            8, 4, 4, 12, 12, 32,
            4, 4, 0, 0, 2, 2, 3, 3, 0, 0};
        for (int at = 0; at < texts.length; at++) {
            fault(texts[at], faults[at]);
        }
    }

    private static void theNinthIsland() {
        String eight = "1,1;1,1;1,1;1,1;1,1;1,1;1,1;1,1";
        fault(eight + ";", 31);
        fault(eight + ";1,1", 31);
        fault(eight + ">0;", 33);
        fault("i9,20>1;k9,20>2;i9,20>3;k9,20>4;k9,20>5;ik9,20>6;i9,20;ik1,1;i", 60);
        fault("1,1;1,1;1,1;1,1;1,1;1,1;1,1;", 28);
        StringBuilder full = new StringBuilder("1,1");
        while (full.length() < 63) {
            full.append(">1");
        }
        fault(full.toString(), -6);
        fault(full + ">", 64);
        fault(full + ";", 64);
        fault(full + "0", 63);
    }

    private static void faultIsNoChange() {
        SleepingIslands x = Checks.chip("2,3>1;i4,5");
        x.value(0, 8);
        Checks.put(x, "1,1>1;1,1>0;2");
        String before = Checks.look(x);
        is.due("19: fault()", x.fault(), 13);
        is.same("19: fault", before, x);
        is.due("19: count(13)", x.count(13), 2);
        is.due("19: a number that is not there is no fault", faultOf("1,1>7"), -6);
    }

    /** What was looked through ahead of a wipe leaves nothing in the chip that is read behind it. */
    private static void faultLeavesNothing() {
        SleepingIslands x = new SleepingIslands();
        Checks.put(x, "ik9,20>1>2;ik9,20>0>2;ik9,20>0>1");
        x.fault();
        x.wipe();
        Checks.put(x, "1,1;1,1");
        is.due("19: read()", x.read(), 2);
        int[] due = {0, 0, 0, 0, 0, 1, 1, 0, 0, 0, 0, -6, 0};
        for (int island = 0; island < 2; island++) {
            for (int what = 0; what < 13; what++) {
                is.due("19: of(" + island + ", " + what + ")", x.of(island, what), due[what]);
            }
        }
        is.due("19: of(2, 0)", x.of(2, 0), -1);
    }

    private static int faultOf(String text) {
        SleepingIslands x = new SleepingIslands();
        Checks.put(x, text);
        return x.fault();
    }
}
