/**
 * The conventions: a call that returns an error changes nothing, not even the history, the pad and the slots; the errors
 * are checked in the order in which they are named; NONE comes only where no error applies.
 */
public final class RefusalsTest {
    private static final Checks is = new Checks();
    private static final int BIG = Checks.BIG, SMALL = Checks.SMALL;
    private static final String EIGHT_IN_64 = "ik9,20>1;ik9,20>2;ik9,20>3;ik9,20>4;ik9,20>5;ik9,20>6;ik9,20;1,1";

    public static void main(String[] args) {
        changesThatFail();
        readThatFails();
        ordersThatFail();
        looksThatFail();
        whatIfsThatFail();
        putThatFails();
        slotsThatFail();
        whatFailsWhenFull();
        whatFailsOnANewObject();
        looksAndWhatIfsChangeNothing();
        noneChangesNothing();
        orderOfErrors();
        errorsAheadOfNone();
        is.end();
    }

    /** 0 awake, 1 falling, 2 asleep, 3 waiting, 4 rising, 5 waiting; a whole text in the pad, all slots, all undos. */
    private static SleepingIslands rich() {
        SleepingIslands x = Checks.chip("k3,4;2,2>0");
        x.value(0, 11);
        x.save(0);
        Checks.put(x, "1,1>4>2>3;1,2;ik1,3;k1,20>0;9,4;i1,20>0>1");
        x.read();
        x.value(1, 77);
        x.value(2, 21);
        x.value(3, 33);
        x.save(1);
        for (int island = 2; island < 6; island++) {
            x.sleep(island);
        }
        x.pass(1);
        x.wake(4);
        x.pass(1);
        x.wake(3);
        x.wake(5);
        x.pass(2);
        x.sleep(1);
        Checks.put(x, "ik9,20>1;1,1");
        return x;
    }

    private static SleepingIslands richWith(String more) {
        SleepingIslands x = rich();
        Checks.put(x, more);
        return x;
    }

    /** Eight islands, two of which sleep, and a pad of 64 characters without a fault. */
    private static SleepingIslands full() {
        SleepingIslands x = Checks.chip("1,1;2,2;3,3>1;4,4;5,5;6,6;7,7;i8,8>0>6");
        x.save(1);
        x.sleep(0);
        x.sleep(7);
        x.pass(1);
        x.save(0);
        x.set(0, 9);
        x.set(1, 1);
        x.set(0, 8);
        Checks.put(x, EIGHT_IN_64);
        return x;
    }

    private static void changesThatFail() {
        int[][] settings = {{-1, 1}, {2, 1}, {BIG, 1}, {SMALL, 1}, {0, 0}, {0, 61}, {0, BIG}, {0, SMALL}, {1, -1}, {1, 2}};
        for (int[] s : settings) {
            is.leaves("set(" + s[0] + ", " + s[1] + ")", RefusalsTest::rich, x -> x.set(s[0], s[1]), -2);
        }
        int[][] islands = {{0, 1}, {10, 1}, {1, 0}, {1, 21}, {BIG, 1}, {1, SMALL}};
        for (int[] i : islands) {
            is.leaves("build(true, true, " + i[0] + ", " + i[1] + ")", RefusalsTest::rich, x -> x.build(true, true, i[0], i[1]), -2);
        }
        int[][] links = {{6, 0, -1}, {0, 6, -1}, {-1, 0, -1}, {0, -1, -1}, {6, 6, -1}, {0, 0, -2}, {5, 5, -2}, {0, 2, -5}, {5, 1, -5}};
        for (int[] l : links) {
            is.leaves("link(" + l[0] + ", " + l[1] + ", true)", RefusalsTest::rich, x -> x.link(l[0], l[1], true), l[2]);
        }
        is.leaves("link(0, 5, false)", RefusalsTest::rich, x -> x.link(0, 5, false), -5);
        is.leaves("link(2, 0, false)", RefusalsTest::rich, x -> x.link(2, 0, false), -5);
    }

    private static void readThatFails() {
        is.leaves("read() of a fault", () -> richWith("x"), x -> x.read(), -3);
        is.leaves("read() of what ends too early", () -> richWith(";k"), x -> x.read(), -3);
        is.leaves("read() of a number that is not there", () -> richWith(">2"), x -> x.read(), -1);
        is.leaves("read() of both", () -> richWith(">2;"), x -> x.read(), -3);
    }

    private static void ordersThatFail() {
        int[] none = {6, 7, 8, -1, BIG, SMALL};
        for (int n : none) {
            is.leaves("value(" + n + ", 1)", RefusalsTest::rich, x -> x.value(n, 1), -1);
            is.leaves("sleep(" + n + ")", RefusalsTest::rich, x -> x.sleep(n), -1);
            is.leaves("wake(" + n + ")", RefusalsTest::rich, x -> x.wake(n), -1);
        }
        int[] values = {-1, 256, BIG, SMALL};
        for (int v : values) {
            is.leaves("value(0, " + v + ")", RefusalsTest::rich, x -> x.value(0, v), -2);
        }
        for (int island = 1; island < 6; island++) {
            int n = island;
            is.leaves("value(" + n + ", 1)", RefusalsTest::rich, x -> x.value(n, 1), -5);
            is.leaves("sleep(" + n + ")", RefusalsTest::rich, x -> x.sleep(n), -5);
        }
        int[] notAsleep = {0, 1, 3, 4, 5};
        for (int n : notAsleep) {
            is.leaves("wake(" + n + ")", RefusalsTest::rich, x -> x.wake(n), -5);
        }
        int[] ticks = {0, 201, -1, BIG, SMALL};
        for (int t : ticks) {
            is.leaves("pass(" + t + ")", RefusalsTest::rich, x -> x.pass(t), -2);
        }
    }

    private static void looksThatFail() {
        is.leaves("of(6, 0)", RefusalsTest::rich, x -> x.of(6, 0), -1);
        is.leaves("of(-1, 0)", RefusalsTest::rich, x -> x.of(-1, 0), -1);
        is.leaves("of(0, 13)", RefusalsTest::rich, x -> x.of(0, 13), -2);
        is.leaves("of(0, -1)", RefusalsTest::rich, x -> x.of(0, -1), -2);
        is.leaves("count(14)", RefusalsTest::rich, x -> x.count(14), -2);
        is.leaves("count(-1)", RefusalsTest::rich, x -> x.count(-1), -2);
        is.leaves("waiting(2)", RefusalsTest::rich, x -> x.waiting(2), -1);
        is.leaves("waiting(-1)", RefusalsTest::rich, x -> x.waiting(-1), -1);
    }

    private static void whatIfsThatFail() {
        int[][] passed = {{0, 0}, {201, 0}, {BIG, 0}, {1, -1}, {1, 4}, {1, SMALL}};
        for (int[] p : passed) {
            is.leaves("ifPassed(" + p[0] + ", " + p[1] + ")", RefusalsTest::rich, x -> x.ifPassed(p[0], p[1]), -2);
        }
        is.leaves("leastCurrent(-1)", RefusalsTest::rich, x -> x.leastCurrent(-1), -2);
        is.leaves("leastCurrent(201)", RefusalsTest::rich, x -> x.leastCurrent(201), -2);
        is.leaves("quiet(0)", RefusalsTest::rich, x -> x.quiet(0), -2);
        is.leaves("quiet(51)", RefusalsTest::rich, x -> x.quiet(51), -2);
    }

    private static void putThatFails() {
        long[] codes = {0, 32, 127, 0x3100, 0x310031, 0x2031, 0x3120, 0x317F, -1, Long.MIN_VALUE, 0x3131313131313120L, 0x2031313131313131L};
        for (long c : codes) {
            is.leaves("put(" + c + ")", RefusalsTest::rich, x -> x.put(c), -2);
        }
    }

    private static void slotsThatFail() {
        int[] slots = {-1, 2, BIG, SMALL};
        for (int s : slots) {
            is.leaves("save(" + s + ")", RefusalsTest::rich, x -> x.save(s), -2);
            is.leaves("restore(" + s + ")", RefusalsTest::rich, x -> x.restore(s), -2);
        }
    }

    private static void whatFailsWhenFull() {
        is.leaves("a ninth island", RefusalsTest::full, x -> x.build(false, false, 1, 1), -4);
        is.leaves("a ninth island, and a bad one", RefusalsTest::full, x -> x.build(false, false, 1, 0), -2);
        is.leaves("character 65", RefusalsTest::full, x -> x.put('1'), -4);
        is.leaves("characters 65 to 72", RefusalsTest::full, x -> x.put(Checks.code("11111111")), -4);
        is.leaves("a bad character 65", RefusalsTest::full, x -> x.put(' '), -2);
        is.leaves("sleep(0) of eight", RefusalsTest::full, x -> x.sleep(0), -5);
        is.leaves("wake(1) of eight", RefusalsTest::full, x -> x.wake(1), -5);
        is.leaves("of(8, 0)", RefusalsTest::full, x -> x.of(8, 0), -1);
        is.leaves("link(7, 8, true)", RefusalsTest::full, x -> x.link(7, 8, true), -1);
        is.leaves("waiting(0) when nobody waits", RefusalsTest::full, x -> x.waiting(0), -1);
    }

    private static void whatFailsOnANewObject() {
        is.leaves("undo() of nothing", SleepingIslands::new, x -> x.undo(), -5);
        is.leaves("restore(0) of nothing", SleepingIslands::new, x -> x.restore(0), -5);
        is.leaves("restore(1) of nothing", SleepingIslands::new, x -> x.restore(1), -5);
        is.leaves("restore(2) of nothing", SleepingIslands::new, x -> x.restore(2), -2);
        is.leaves("read() of the empty pad", SleepingIslands::new, x -> x.read(), -3);
        is.leaves("link(0, 1, true) without islands", SleepingIslands::new, x -> x.link(0, 1, true), -1);
        is.leaves("link(0, 0, true) without islands", SleepingIslands::new, x -> x.link(0, 0, true), -1);
        is.leaves("value(0, 0) without islands", SleepingIslands::new, x -> x.value(0, 0), -1);
        is.leaves("sleep(0) without islands", SleepingIslands::new, x -> x.sleep(0), -1);
        is.leaves("wake(0) without islands", SleepingIslands::new, x -> x.wake(0), -1);
        is.leaves("of(0, 0) without islands", SleepingIslands::new, x -> x.of(0, 0), -1);
        is.leaves("waiting(0) without islands", SleepingIslands::new, x -> x.waiting(0), -1);
    }

    /** No call of these two parts of the face is an error here, and still nothing changes. */
    private static void looksAndWhatIfsChangeNothing() {
        for (int what = 0; what < 13; what++) {
            int w = what;
            for (int island = 0; island < 6; island++) {
                int i = island;
                is.leaves("of(" + i + ", " + w + ")", RefusalsTest::rich, x -> x.of(i, w), rich().of(i, w));
            }
        }
        for (int what = 0; what < 14; what++) {
            int w = what;
            is.leaves("count(" + w + ")", RefusalsTest::rich, x -> x.count(w), rich().count(w));
        }
        is.leaves("waiting(0)", RefusalsTest::rich, x -> x.waiting(0), 3);
        is.leaves("waiting(1)", RefusalsTest::rich, x -> x.waiting(1), 5);
        int[] ticks = {1, 2, 17, 200};
        for (int t : ticks) {
            for (int what = 0; what < 4; what++) {
                int w = what;
                is.leaves("ifPassed(" + t + ", " + w + ")", RefusalsTest::rich, x -> x.ifPassed(t, w), rich().ifPassed(t, w));
            }
        }
        is.leaves("allAwake()", RefusalsTest::full, x -> x.allAwake(), full().allAwake());
        is.leaves("leastCurrent(200)", RefusalsTest::full, x -> x.leastCurrent(200), 1);
        is.leaves("quiet(1)", RefusalsTest::rich, x -> x.quiet(1), rich().quiet(1));
        is.leaves("quiet(50)", RefusalsTest::full, x -> x.quiet(50), full().quiet(50));
        is.leaves("fault()", () -> richWith("x"), x -> x.fault(), 12);
    }

    private static void noneChangesNothing() {
        is.leaves("of(0, 11) of one that does not wait", RefusalsTest::rich, x -> x.of(0, 11), -6);
        is.leaves("allAwake() with one that falls", RefusalsTest::rich, x -> x.allAwake(), -6);
        is.leaves("leastCurrent(200) with one that falls", RefusalsTest::rich, x -> x.leastCurrent(200), -6);
        is.leaves("fault() without a fault", RefusalsTest::rich, x -> x.fault(), -6);
    }

    private static void orderOfErrors() {
        SleepingIslands x = rich();
        is.due("link(6, 6, true): no island ahead of the same", x.link(6, 6, true), -1);
        is.due("link(-1, -1, false): no island ahead of the same", x.link(-1, -1, false), -1);
        is.due("link(0, 0, false): the same ahead of being so already", x.link(0, 0, false), -2);
        is.due("link(0, 6, false): no island ahead of being so already", x.link(0, 6, false), -1);
        is.due("value(6, 256): no island ahead of a bad value", x.value(6, 256), -1);
        is.due("value(6, -1): no island ahead of a bad value", x.value(6, -1), -1);
        is.due("value(1, 256): a bad value ahead of not being awake", x.value(1, 256), -2);
        is.due("value(2, -1): a bad value ahead of not being awake", x.value(2, -1), -2);
        is.due("of(6, 13): no island ahead of a bad value", x.of(6, 13), -1);
        is.due("of(-1, -1): no island ahead of a bad value", x.of(-1, -1), -1);
        is.due("build when full: a bad rise ahead of too many", full().build(true, true, 10, 1), -2);
        is.due("build when full: a bad load ahead of too many", full().build(true, true, 1, 21), -2);
        is.due("put when full: a bad character ahead of too many", full().put(127), -2);
        is.due("put when full: no character ahead of too many", full().put(0), -2);
        is.due("put when full: a gap ahead of too many", full().put(0x310031), -2);
        is.due("read(): a fault ahead of a number that is not there", richWith(">7x").read(), -3);
        is.due("restore(2): a bad slot ahead of nothing saved", new SleepingIslands().restore(2), -2);
        is.due("restore(-1): a bad slot ahead of nothing saved", new SleepingIslands().restore(-1), -2);
    }

    private static void errorsAheadOfNone() {
        SleepingIslands x = rich();
        is.due("of(6, 11): no island ahead of NONE", x.of(6, 11), -1);
        is.due("leastCurrent(201): a bad value ahead of NONE", x.leastCurrent(201), -2);
        is.due("leastCurrent(-1): a bad value ahead of NONE", x.leastCurrent(-1), -2);
        is.due("leastCurrent(200): NONE", x.leastCurrent(200), -6);
    }
}
