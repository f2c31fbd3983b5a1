/** Promises 1 to 5: a new object, set, build, read, link. */
public final class BuildingTest {
    private static final Checks is = new Checks();
    private static final int BIG = Integer.MAX_VALUE, SMALL = Integer.MIN_VALUE;

    public static void main(String[] args) {
        newObject();
        set();
        build();
        buildIsAChange();
        read();
        readTakesTheOldChipAway();
        readFails();
        link();
        linkFails();
        is.end();
    }

    private static void newObject() {
        SleepingIslands x = new SleepingIslands();
        int[] due = {0, 0, 0, 0, 0, 0, 0, 0, 0, 0, 20, 0, 0, 0};
        for (int what = 0; what < due.length; what++) {
            is.due("1: count(" + what + ")", x.count(what), due[what]);
        }
        is.due("1: of(0, 0)", x.of(0, 0), -1);
        is.due("1: waiting(0)", x.waiting(0), -1);
        is.due("1: undo()", x.undo(), -5);
        is.due("1: restore(0)", x.restore(0), -5);
        is.due("1: restore(1)", x.restore(1), -5);
        is.due("1: fault()", x.fault(), 0);
        new SleepingIslands().build(true, true, 1, 1);
        is.due("1: count(0) beside another object", x.count(0), 0);
    }

    private static void set() {
        SleepingIslands x = new SleepingIslands();
        is.due("2: set(0, 1)", x.set(0, 1), 20);
        is.due("2: set(0, 60)", x.set(0, 60), 1);
        is.due("2: count(10)", x.count(10), 60);
        is.due("2: set(1, 1)", x.set(1, 1), 0);
        is.due("2: count(11)", x.count(11), 1);
        is.due("2: set(1, 1) again", x.set(1, 1), 1);
        is.due("2: count(13)", x.count(13), 4);
        String before = Checks.look(x);
        int[][] bad = {{0, 0}, {0, 61}, {0, -1}, {0, BIG}, {0, SMALL}, {1, -1}, {1, 2}, {1, BIG}, {-1, 1}, {2, 1}, {BIG, 1}, {SMALL, 1}};
        for (int[] b : bad) {
            is.due("2: set(" + b[0] + ", " + b[1] + ")", x.set(b[0], b[1]), -2);
        }
        is.same("2: set that fails", before, x);
        is.due("2: undo()", x.undo(), 3);
        is.due("2: count(11) of the same value set again", x.count(11), 1);
        x.undo();
        is.due("2: count(11) undone", x.count(11), 0);
        x.undo();
        is.due("2: count(10) undone", x.count(10), 1);
    }

    private static void build() {
        SleepingIslands x = new SleepingIslands();
        int[][] bad = {{0, 1}, {10, 1}, {-1, 1}, {BIG, 1}, {SMALL, 1}, {1, 0}, {1, 21}, {1, -1}, {1, BIG}, {1, SMALL}};
        for (int[] b : bad) {
            is.due("3: build(true, true, " + b[0] + ", " + b[1] + ")", x.build(true, true, b[0], b[1]), -2);
        }
        is.due("3: count(13) behind bad ones", x.count(13), 0);
        is.due("3: build(false, false, 1, 20)", x.build(false, false, 1, 20), 0);
        is.due("3: build(true, false, 9, 1)", x.build(true, false, 9, 1), 1);
        is.due("3: build(false, true, 2, 3)", x.build(false, true, 2, 3), 2);
        int[][] due = {{0, 0, 0, 0, 0, 1, 20, 0, 0, 0, 0, -6, 0}, {0, 0, 0, 1, 0, 9, 1, 0, 0, 0, 0, -6, 0}, {0, 0, 0, 0, 1, 2, 3, 0, 0, 0, 0, -6, 0}};
        for (int island = 0; island < 3; island++) {
            for (int what = 0; what < 13; what++) {
                is.due("3: of(" + island + ", " + what + ")", x.of(island, what), due[island][what]);
            }
        }
        is.due("3: of(3, 0)", x.of(3, 0), -1);
        for (int number = 3; number < 8; number++) {
            is.due("3: build of " + number, x.build(true, true, 1, 1), number);
        }
        String before = Checks.look(x);
        is.due("3: a ninth", x.build(true, true, 1, 1), -4);
        is.due("3: a ninth, with a bad rise", x.build(true, true, 0, 1), -2);
        is.due("3: a ninth, with a bad load", x.build(true, true, 1, 21), -2);
        is.same("3: build of a ninth", before, x);
    }

    private static void buildIsAChange() {
        SleepingIslands x = new SleepingIslands();
        x.build(true, true, 5, 5);
        x.build(false, false, 6, 6);
        is.due("3: undo()", x.undo(), 1);
        is.due("3: count(0) undone", x.count(0), 1);
        is.due("3: of(1, 5) undone", x.of(1, 5), -1);
        is.due("3: build anew", x.build(false, true, 1, 1), 1);
        is.due("3: of(1, 3) anew", x.of(1, 3), 0);
        is.due("3: of(1, 4) anew", x.of(1, 4), 1);
        is.due("3: count(1) anew", x.count(1), 3);
    }

    private static void read() {
        SleepingIslands x = new SleepingIslands();
        Checks.put(x, "ik3,20>2>1;k9,10;i1,9>0>0");
        is.due("4: read()", x.read(), 3);
        int[][] due = {{0, 0, 0, 1, 1, 3, 20, 6, 4, 0, 0, -6, 0}, {0, 0, 0, 0, 1, 9, 10, 0, 1, 0, 0, -6, 0}, {0, 0, 0, 1, 0, 1, 9, 1, 1, 0, 0, -6, 0}};
        for (int island = 0; island < 3; island++) {
            for (int what = 0; what < 13; what++) {
                is.due("4: of(" + island + ", " + what + ")", x.of(island, what), due[island][what]);
            }
        }
        is.due("4: count(12) behind read", x.count(12), 0);
        is.due("4: read() of the empty pad", x.read(), -3);
        is.due("4: undo()", x.undo(), 0);
        is.due("4: count(0) undone", x.count(0), 0);
        is.due("4: count(12): undo leaves the pad", x.count(12), 0);
        Checks.put(x, "1,1>7;1,1;1,1;1,1;1,1;1,1;1,1;1,1>0");
        is.due("4: read() of eight", x.read(), 8);
        is.due("4: of(0, 7)", x.of(0, 7), 128);
        is.due("4: of(7, 7)", x.of(7, 7), 1);
    }

    private static void readTakesTheOldChipAway() {
        SleepingIslands x = Checks.chip("k2,3>1;i1,5;4,1");
        x.set(0, 7);
        x.set(1, 1);
        x.value(0, 200);
        x.value(2, 9);
        x.sleep(0);
        Checks.sleepFully(x, 2);
        x.sleep(1);
        x.pass(2);
        x.wake(0);
        x.wake(2);
        x.pass(1);
        is.due("4: count(9) ahead", x.count(9), 4);
        is.due("4: count(6) ahead", x.count(6), 4);
        is.due("4: count(8) ahead", x.count(8), 1);
        Checks.put(x, "2,2;2,2>0");
        is.due("4: read() in place of another chip", x.read(), 2);
        int[] counts = {2, 3, 0, 0, 0, 0, 0, 0, 0, 0, 7, 1, 0};
        for (int what = 0; what < counts.length; what++) {
            is.due("4: count(" + what + ") behind", x.count(what), counts[what]);
        }
        int[] due = {0, 0, 0, 0, 0, 2, 2, 0, 2, 0, 0, -6, 0};
        for (int what = 0; what < 13; what++) {
            is.due("4: of(0, " + what + ") behind", x.of(0, what), due[what]);
        }
        is.due("4: waiting(0) behind", x.waiting(0), -1);
        is.due("4: of(2, 0) behind", x.of(2, 0), -1);
        x.undo();
        is.due("4: count(9) undone", x.count(9), 4);
        is.due("4: count(4) undone", x.count(4), 5);
        is.due("4: of(2, 5) undone", x.of(2, 5), 4);
    }

    private static void readFails() {
        SleepingIslands x = Checks.chip("1,1;2,2>0");
        x.value(0, 5);
        Checks.put(x, "1,1>2;1,1");
        String before = Checks.look(x);
        is.due("4: read() of a number that is not there", x.read(), -1);
        is.same("4: read() of a number that is not there", before, x);
        is.due("4: count(12) stays", x.count(12), 9);
        Checks.put(x, ";");
        before = Checks.look(x);
        is.due("4: read() of a fault, and a number that is not there", x.read(), -3);
        is.same("4: read() of a fault", before, x);
        Checks.put(x, "1,1");
        is.due("4: read() of what is whole now", x.read(), 3);
        is.due("4: of(0, 7)", x.of(0, 7), 4);
        Checks.put(x, "1,1>3;1,1;1,1");
        is.due("4: read() of the first number too many", x.read(), -1);
    }

    private static void link() {
        SleepingIslands x = Checks.chip("1,1;1,1;1,1;1,1;1,1;1,1;1,1;1,1");
        is.due("5: link(0, 7, true)", x.link(0, 7, true), 128);
        is.due("5: link(0, 3, true)", x.link(0, 3, true), 136);
        is.due("5: link(7, 0, true)", x.link(7, 0, true), 1);
        is.due("5: of(0, 8)", x.of(0, 8), 128);
        is.due("5: of(3, 8)", x.of(3, 8), 1);
        is.due("5: link(0, 7, false)", x.link(0, 7, false), 8);
        is.due("5: of(7, 8)", x.of(7, 8), 0);
        is.due("5: count(13)", x.count(13), 5);
        x.undo();
        is.due("5: of(0, 7) undone", x.of(0, 7), 136);
        x.sleep(1);
        is.due("5: link of a falling one", x.link(1, 2, true), 4);
        x.pass(1);
        is.due("5: link of a sleeping one", x.link(1, 2, false), 0);
        is.due("5: link to a sleeping one", x.link(2, 1, true), 2);
        x.pass(1);
        is.due("5: what is read over a new link", x.of(2, 1), 255);
    }

    private static void linkFails() {
        SleepingIslands x = Checks.chip("1,1>1;1,1");
        String before = Checks.look(x);
        int[][] none = {{2, 0}, {0, 2}, {2, 2}, {-1, 0}, {0, -1}, {-1, -1}, {BIG, 0}, {0, SMALL}, {8, 0}, {0, 32}, {32, 0}};
        for (int[] n : none) {
            is.due("5: link(" + n[0] + ", " + n[1] + ", true)", x.link(n[0], n[1], true), -1);
            is.due("5: link(" + n[0] + ", " + n[1] + ", false)", x.link(n[0], n[1], false), -1);
        }
        is.due("5: link(1, 1, true)", x.link(1, 1, true), -2);
        is.due("5: link(1, 1, false): bad ahead of being so already", x.link(1, 1, false), -2);
        is.due("5: link(0, 1, true)", x.link(0, 1, true), -5);
        is.due("5: link(1, 0, false)", x.link(1, 0, false), -5);
        is.same("5: link that fails", before, x);
    }
}
