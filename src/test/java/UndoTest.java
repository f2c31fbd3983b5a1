/** Promises 20 to 22: undo, save, restore. */
public final class UndoTest {
    private static final Checks is = new Checks();
    private static final int BIG = Integer.MAX_VALUE, SMALL = Integer.MIN_VALUE;

    public static void main(String[] args) {
        sixStates();
        eachChangeIsUndone();
        whatIsNoChange();
        undoLeavesPadAndSlots();
        save();
        saveTakesEverythingAlong();
        restore();
        slotsFail();
        is.end();
    }

    private static void sixStates() {
        SleepingIslands x = new SleepingIslands();
        is.due("20: undo() of nothing", x.undo(), -5);
        for (int current = 1; current <= 9; current++) {
            x.set(0, current);
            is.due("20: count(13)", x.count(13), Math.min(current, 6));
        }
        for (int left = 5; left >= 0; left--) {
            is.due("20: undo()", x.undo(), left);
            is.due("20: count(10)", x.count(10), left + 3);
            is.due("20: count(13)", x.count(13), left);
        }
        is.due("20: undo() of no more", x.undo(), -5);
        is.due("20: count(10) at the end", x.count(10), 3);
        x.set(0, 50);
        x.set(0, 51);
        x.undo();
        x.set(0, 52);
        is.due("20: undo() of 52", x.undo(), 1);
        is.due("20: count(10): 50", x.count(10), 50);
        is.due("20: undo() of 50", x.undo(), 0);
        is.due("20: count(10): 3", x.count(10), 3);
    }

    /** Every change is undone by one undo, to the same looks (but for the pad, which undo leaves). */
    private static void eachChangeIsUndone() {
        for (int change = 0; change < 9; change++) {
            SleepingIslands x = oneThatWaits();
            String before = Checks.look(x);
            int many = x.count(13);
            is.due("20: change " + change, make(x, change) >= 0 ? 1 : 0, 1);
            is.due("20: count(13) behind change " + change, x.count(13), many + 1);
            is.due("20: undo() of change " + change, x.undo(), many);
            is.same("20: undo of change " + change, before, x);
        }
    }

    private static SleepingIslands oneThatWaits() {
        SleepingIslands x = Checks.chip("k2,3>1;i1,5;4,20>0>1");
        x.save(1);
        x.value(2, 7);
        Checks.sleepFully(x, 2);
        x.wake(2);
        Checks.sleepFully(x, 1);
        x.undo();
        x.undo();
        return x;
    }

    private static int make(SleepingIslands x, int change) {
        switch (change) {
            case 0: return x.set(0, 44);
            case 1: return x.build(true, true, 9, 9);
            case 2: Checks.put(x, "1,1"); return x.read();
            case 3: return x.link(1, 0, true);
            case 4: return x.value(0, 99);
            case 5: return x.sleep(0);
            case 6: return x.pass(200);
            case 7: return x.restore(1);
            default: return x.set(1, 1);
        }
    }

    private static void whatIsNoChange() {
        SleepingIslands x = Checks.chip("1,1;1,1>0");
        x.of(0, 0);
        x.count(0);
        x.waiting(0);
        x.ifPassed(5, 0);
        x.allAwake();
        x.leastCurrent(5);
        x.quiet(5);
        x.put('1');
        x.fault();
        x.wipe();
        x.save(0);
        is.due("20: count(13)", x.count(13), 1);
        x.set(0, 20);
        is.due("20: count(13): a change to the same is recorded", x.count(13), 2);
        x.set(0, 99);
        x.build(true, true, 0, 0);
        x.read();
        x.link(0, 0, true);
        x.link(1, 0, true);
        x.value(0, 999);
        x.sleep(5);
        x.wake(0);
        x.pass(0);
        x.restore(1);
        is.due("20: count(13): what fails is not recorded", x.count(13), 2);
        is.due("20: undo()", x.undo(), 1);
        is.due("20: undo() of read", x.undo(), 0);
        is.due("20: count(0)", x.count(0), 0);
    }

    private static void undoLeavesPadAndSlots() {
        SleepingIslands x = new SleepingIslands();
        x.build(true, true, 1, 1);
        Checks.put(x, "3,3");
        x.save(0);
        x.undo();
        is.due("20: count(12): the pad stays", x.count(12), 3);
        is.due("20: count(0)", x.count(0), 0);
        is.due("20: restore(0): the slot stays", x.restore(0), 1);
        is.due("20: undo() of restore", x.undo(), 0);
        is.due("20: count(0) then", x.count(0), 0);
        is.due("20: fault(): the pad stays", x.fault(), -6);
    }

    private static void save() {
        SleepingIslands x = new SleepingIslands();
        is.due("21: save(0) without islands", x.save(0), 0);
        x.build(true, false, 2, 2);
        is.due("21: save(1)", x.save(1), 1);
        is.due("21: count(13): save is no change", x.count(13), 1);
        x.build(true, false, 3, 3);
        is.due("21: restore(0)", x.restore(0), 0);
        is.due("21: restore(1)", x.restore(1), 1);
        x.build(false, true, 4, 4);
        x.build(false, true, 5, 5);
        is.due("21: save(1) over what was saved", x.save(1), 3);
        x.undo();
        is.due("21: restore(0) then", x.restore(0), 0);
        is.due("21: restore(1) then", x.restore(1), 3);
        is.due("21: of(2, 5)", x.of(2, 5), 5);
        is.due("21: of(2, 4)", x.of(2, 4), 1);
    }

    private static void saveTakesEverythingAlong() {
        SleepingIslands x = Checks.chip("k2,20>1;i1,5>2;4,20>0>1;1,9>0");
        x.set(0, 9);
        x.value(0, 3);
        x.value(1, 5);
        x.value(2, 6);
        for (int island = 0; island < 3; island++) {
            x.sleep(island);
        }
        x.pass(3);
        x.wake(2);
        x.wake(1);
        x.pass(1);
        x.set(1, 1);
        is.due("21: waiting(0)", x.waiting(0), 1);
        is.due("21: count(8)", x.count(8), 2);
        x.save(0);
        String saved = Checks.look(x);
        Checks.put(x, "1,1;1,2");
        x.read();
        x.set(0, 60);
        x.set(1, 0);
        x.pass(7);
        x.restore(0);
        is.due("22: all that was saved is there", withoutHistory(Checks.look(x)).equals(withoutHistory(saved)) ? 1 : 0, 1);
        x.pass(100);
        x.value(0, 44);
        x.restore(0);
        is.due("22: the slot keeps it", withoutHistory(Checks.look(x)).equals(withoutHistory(saved)) ? 1 : 0, 1);
        is.due("22: allAwake()", x.allAwake(), 7);
    }

    /** count(13) is the 14th number of a look. */
    private static String withoutHistory(String look) {
        String[] parts = look.split(" ", 15);
        parts[13] = "";
        return String.join(" ", parts);
    }

    private static void restore() {
        SleepingIslands x = Checks.chip("1,1;2,2");
        x.save(1);
        x.value(0, 7);
        Checks.put(x, "9,9");
        is.due("22: restore(1)", x.restore(1), 2);
        is.due("22: of(0, 1)", x.of(0, 1), 0);
        is.due("22: count(12): the pad stays", x.count(12), 3);
        is.due("22: count(13): restore is a change", x.count(13), 3);
        x.undo();
        is.due("22: of(0, 1) undone", x.of(0, 1), 7);
        x.undo();
        x.undo();
        is.due("22: count(0) undone", x.count(0), 0);
        is.due("22: restore(1) again", x.restore(1), 2);
        is.due("22: restore(0)", x.restore(0), -5);
    }

    private static void slotsFail() {
        SleepingIslands x = Checks.chip("1,1");
        String before = Checks.look(x);
        int[] bad = {-1, 2, 3, 32, 33, BIG, SMALL};
        for (int b : bad) {
            is.due("21: save(" + b + ")", x.save(b), -2);
            is.due("22: restore(" + b + ")", x.restore(b), -2);
        }
        is.due("22: restore(0)", x.restore(0), -5);
        is.due("22: restore(1)", x.restore(1), -5);
        is.same("22: restore that fails", before, x);
        x.save(0);
        is.due("22: restore(1) when 0 was saved", x.restore(1), -5);
        is.due("22: restore(0) when 0 was saved", x.restore(0), 1);
    }
}
