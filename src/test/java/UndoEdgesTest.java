/** The boundary cases of promises 20 to 22. */
public final class UndoEdgesTest {
    private static final Checks is = new Checks();
    private static final int BIG = Checks.BIG, SMALL = Checks.SMALL;
    private static final String EIGHT = "1,1;1,1;1,1;1,1;1,1;1,1;1,1;1,1";

    public static void main(String[] args) {
        nothingToUndo();
        upToSixChanges();
        theOldestIsDropped();
        roomBehindUndo();
        eachChangeIsRecordedOnce();
        changesToTheSameAreRecorded();
        whatFailsIsNotRecorded();
        whatIsNoChangeIsNotRecorded();
        everythingIsUndoneAndRestored();
        undoIsNotUndone();
        undoLeavesThePad();
        undoLeavesTheSlots();
        saveInSlots0And1();
        saveOfNoneAndOfEight();
        saveOverwrites();
        nothingSaved();
        aChipWithoutIslandsIsSaved();
        theSlotKeepsIt();
        restoreLeavesPadHistoryAndSlots();
        is.end();
    }

    private static void nothingToUndo() {
        SleepingIslands x = new SleepingIslands();
        is.due("20: undo() of a new one", x.undo(), -5);
        is.due("20: undo() again", x.undo(), -5);
        x.set(0, 1);
        is.due("20: undo() of one change", x.undo(), 0);
        is.due("20: undo() of no more", x.undo(), -5);
        is.due("20: count(10)", x.count(10), 20);
        is.due("20: count(13)", x.count(13), 0);
    }

    private static void upToSixChanges() {
        for (int changes = 1; changes <= 8; changes++) {
            SleepingIslands x = new SleepingIslands();
            for (int current = 1; current <= changes; current++) {
                x.set(0, current);
            }
            int undos = Math.min(changes, 6);
            for (int left = undos - 1; left >= 0; left--) {
                is.due("20: undo() of " + changes, x.undo(), left);
            }
            is.due("20: undo() of no more of " + changes, x.undo(), -5);
            is.due("20: count(10) of " + changes, x.count(10), changes <= 6 ? 20 : changes - 6);
        }
    }

    private static void theOldestIsDropped() {
        SleepingIslands x = new SleepingIslands();
        for (int change = 0; change < 7; change++) {
            x.build(false, false, 1, 1);
        }
        is.due("20: count(13) of seven", x.count(13), 6);
        for (int islands = 6; islands >= 1; islands--) {
            x.undo();
            is.due("20: count(0)", x.count(0), islands);
        }
        is.due("20: undo(): the oldest was dropped", x.undo(), -5);
        is.due("20: count(0) at the end", x.count(0), 1);
    }

    private static void roomBehindUndo() {
        SleepingIslands x = new SleepingIslands();
        for (int current = 1; current <= 6; current++) {
            x.set(0, current);
        }
        x.undo();
        is.due("20: count(13) behind undo", x.count(13), 5);
        x.set(0, 50);
        is.due("20: count(13): none is dropped", x.count(13), 6);
        x.set(0, 51);
        is.due("20: count(13): one is dropped", x.count(13), 6);
        int[] due = {50, 5, 4, 3, 2, 1};
        for (int current : due) {
            x.undo();
            is.due("20: count(10)", x.count(10), current);
        }
        is.due("20: undo() of no more", x.undo(), -5);
    }

    private static long make(SleepingIslands x, int change) {
        switch (change) {
            case 0: return x.set(0, 44);
            case 1: return x.set(1, 1);
            case 2: return x.build(true, true, 9, 20);
            case 3: return x.read();
            case 4: return x.link(0, 1, true);
            case 5: return x.value(0, 255);
            case 6: return x.sleep(0);
            case 7: return x.wake(1);
            case 8: return x.pass(200);
            default: return x.restore(0);
        }
    }

    private static SleepingIslands readyForAll() {
        SleepingIslands x = Checks.asleep("k1,1;2,2;3,3>1", 1);
        x.save(0);
        x.value(0, 9);
        Checks.put(x, "1,1");
        return x;
    }

    private static void eachChangeIsRecordedOnce() {
        for (int change = 0; change < 10; change++) {
            SleepingIslands x = readyForAll();
            String before = withoutPadAndHistory(x);
            int many = x.count(13);
            is.due("20: whether change " + change + " is no error", make(x, change) >= 0 ? 1 : 0, 1);
            is.due("20: count(13) behind change " + change, x.count(13), many + 1);
            is.due("20: whether change " + change + " is seen", withoutPadAndHistory(x).equals(before) ? 1 : 0, 0);
            is.due("20: undo() of change " + change, x.undo(), many);
            is.due("20: whether change " + change + " is undone", withoutPadAndHistory(x).equals(before) ? 1 : 0, 1);
        }
    }

    /** A look but for the length of the pad, its fault, and how many changes can be undone. */
    private static String withoutPadAndHistory(SleepingIslands x) {
        String[] parts = Checks.look(x).split(" ");
        parts[12] = "";
        parts[13] = "";
        String all = String.join(" ", parts);
        return all.substring(0, all.lastIndexOf('|'));
    }

    private static void changesToTheSameAreRecorded() {
        SleepingIslands x = Checks.chip("1,1");
        x.save(0);
        x.undo();
        is.due("20: set to the same", x.set(0, 20), 20);
        is.due("20: count(13) behind set", x.count(13), 1);
        is.due("20: ASKING to the same", x.set(1, 0), 0);
        is.due("20: count(13) behind ASKING", x.count(13), 2);
        x.restore(0);
        is.due("20: count(13) behind restore", x.count(13), 3);
        x.restore(0);
        is.due("20: count(13) behind restore of the same", x.count(13), 4);
        x.value(0, 0);
        is.due("20: count(13) behind value of the same", x.count(13), 5);
        Checks.put(x, "1,1");
        x.read();
        is.due("20: count(13) behind read of the same", x.count(13), 6);
        for (int left = 5; left >= 3; left--) {
            is.due("20: undo()", x.undo(), left);
            is.due("20: count(0)", x.count(0), 1);
        }
        x.undo();
        is.due("20: count(0) ahead of restore", x.count(0), 0);
    }

    private static void whatFailsIsNotRecorded() {
        SleepingIslands x = Checks.chip(EIGHT);
        x.value(0, 1);
        x.set(2, 1);
        x.set(0, 61);
        x.set(1, 2);
        x.build(false, false, 0, 1);
        x.build(false, false, 1, 1);
        x.read();
        Checks.put(x, "1,1>7");
        x.read();
        x.link(8, 0, true);
        x.link(0, 0, true);
        x.link(0, 1, false);
        x.value(8, 1);
        x.value(0, 256);
        x.sleep(8);
        x.wake(8);
        x.wake(0);
        x.pass(0);
        x.pass(201);
        x.restore(0);
        x.restore(2);
        is.due("20: count(13)", x.count(13), 2);
        is.due("20: undo() of value", x.undo(), 1);
        is.due("20: of(0, 1)", x.of(0, 1), 0);
        is.due("20: undo() of read", x.undo(), 0);
        x.undo();
        is.due("20: count(13): undo of nothing", x.count(13), 0);
    }

    private static void whatIsNoChangeIsNotRecorded() {
        SleepingIslands x = Checks.chip(EIGHT);
        x.of(0, 1);
        x.count(0);
        x.waiting(0);
        x.ifPassed(200, 0);
        x.allAwake();
        x.leastCurrent(200);
        x.quiet(50);
        x.put('1');
        x.fault();
        x.wipe();
        x.save(0);
        x.save(1);
        is.due("20: count(13)", x.count(13), 1);
    }

    /** 0 awake, 1 falling, 2 asleep, 3 waiting, 4 rising, noise, a loss, settings: nothing is as on a new chip. */
    private static SleepingIslands oneOfEachState() {
        SleepingIslands x = Checks.chip("1,1>4>2;k1,2;k1,3;i1,20>0;9,4;1,1");
        x.value(0, 3);
        x.value(2, 21);
        x.value(3, 33);
        x.sleep(2);
        x.sleep(3);
        x.sleep(4);
        x.pass(1);
        Checks.wake(x, 4, 3);
        x.pass(2);
        x.sleep(1);
        x.set(0, 23);
        return x;
    }

    private static void everythingIsUndoneAndRestored() {
        SleepingIslands x = oneOfEachState();
        is.due("20: count(8)", x.count(8), 1);
        is.due("20: of(4, 10)", x.of(4, 10), 8);
        is.due("20: of(2, 2)", x.of(2, 2), 21);
        String before = withoutPadAndHistory(x);
        x.save(0);
        Checks.put(x, EIGHT);
        x.read();
        x.undo();
        is.due("20: whether read is undone", withoutPadAndHistory(x).equals(before) ? 1 : 0, 1);
        x.value(5, 9);
        x.sleep(5);
        x.pass(3);
        is.due("20: count(8): one more is lost", x.count(8), 2);
        is.due("20: of(4, 10): less is left", x.of(4, 10), 5);
        x.undo();
        x.undo();
        x.undo();
        is.due("20: whether loss and ticks are undone", withoutPadAndHistory(x).equals(before) ? 1 : 0, 1);
        SleepingIslands y = oneOfEachState();
        y.save(0);
        y.value(5, 9);
        y.sleep(5);
        y.pass(3);
        y.restore(0);
        is.due("22: whether loss and ticks are as they were", withoutPadAndHistory(y).equals(before) ? 1 : 0, 1);
        Checks.put(y, EIGHT);
        y.read();
        y.set(1, 1);
        y.set(0, 60);
        y.pass(200);
        y.restore(0);
        is.due("22: whether all is restored", withoutPadAndHistory(y).equals(before) ? 1 : 0, 1);
    }

    private static void undoIsNotUndone() {
        SleepingIslands x = new SleepingIslands();
        x.set(0, 1);
        x.set(0, 2);
        is.due("20: undo() of 2", x.undo(), 1);
        is.due("20: count(10)", x.count(10), 1);
        is.due("20: undo() of 1, not of undo", x.undo(), 0);
        is.due("20: count(10) then", x.count(10), 20);
    }

    private static void undoLeavesThePad() {
        SleepingIslands x = new SleepingIslands();
        Checks.put(x, "1,1");
        x.read();
        x.undo();
        is.due("20: count(12): the text is not put back", x.count(12), 0);
        x.set(0, 1);
        Checks.put(x, "2,2;3,3");
        x.undo();
        is.due("20: count(12): the text is not taken away", x.count(12), 7);
        is.due("20: read() of it", x.read(), 2);
        is.due("20: of(1, 6)", x.of(1, 6), 3);
    }

    private static void undoLeavesTheSlots() {
        SleepingIslands x = new SleepingIslands();
        x.build(false, false, 1, 1);
        x.save(1);
        x.undo();
        is.due("20: restore(1): it is saved still", x.restore(1), 1);
        x.undo();
        is.due("20: restore(1): also when restore was undone", x.restore(1), 1);
        is.due("20: restore(0): nothing was saved there", x.restore(0), -5);
    }

    private static void saveInSlots0And1() {
        SleepingIslands x = Checks.chip("1,1");
        is.due("21: save(0)", x.save(0), 1);
        x.build(false, false, 1, 1);
        is.due("21: save(1)", x.save(1), 2);
        int[] bad = {-1, 2, 3, 32, 33, 256, BIG, SMALL};
        for (int b : bad) {
            x.build(false, false, 1, 1);
            is.due("21: save(" + b + ")", x.save(b), -2);
            is.due("22: restore(" + b + ")", x.restore(b), -2);
            x.undo();
        }
        is.due("22: restore(0) keeps to its slot", x.restore(0), 1);
        is.due("22: restore(1) keeps to its slot", x.restore(1), 2);
    }

    private static void saveOfNoneAndOfEight() {
        SleepingIslands x = new SleepingIslands();
        is.due("21: save(0) of none", x.save(0), 0);
        Checks.put(x, EIGHT);
        x.read();
        is.due("21: save(1) of eight", x.save(1), 8);
        is.due("22: restore(0) of none", x.restore(0), 0);
        is.due("22: of(0, 0)", x.of(0, 0), -1);
        is.due("22: restore(1) of eight", x.restore(1), 8);
        is.due("22: of(7, 0)", x.of(7, 0), 0);
        is.due("22: build of a ninth", x.build(false, false, 1, 1), -4);
    }

    private static void saveOverwrites() {
        SleepingIslands x = Checks.chip(EIGHT);
        x.save(0);
        x.save(1);
        Checks.put(x, "9,20");
        x.read();
        is.due("21: save(0) of one over eight", x.save(0), 1);
        is.due("22: restore(1) of eight", x.restore(1), 8);
        is.due("22: restore(0) of one", x.restore(0), 1);
        is.due("22: of(0, 6)", x.of(0, 6), 20);
        is.due("22: of(1, 0)", x.of(1, 0), -1);
        is.due("22: of(7, 0)", x.of(7, 0), -1);
    }

    private static void nothingSaved() {
        SleepingIslands x = Checks.chip("1,1");
        is.due("22: restore(0) of nothing", x.restore(0), -5);
        is.due("22: restore(1) of nothing", x.restore(1), -5);
        x.save(1);
        is.due("22: restore(0) when 1 is saved", x.restore(0), -5);
        is.due("22: restore(1) when 1 is saved", x.restore(1), 1);
        x.save(0);
        is.due("22: restore(0) now", x.restore(0), 1);
        is.due("22: restore(2) now", x.restore(2), -2);
    }

    /** Nothing to see is not nothing saved. */
    private static void aChipWithoutIslandsIsSaved() {
        SleepingIslands x = new SleepingIslands();
        x.save(0);
        x.set(0, 60);
        is.due("22: restore(0)", x.restore(0), 0);
        is.due("22: count(10): settings, too", x.count(10), 20);
        is.due("22: count(13)", x.count(13), 2);
    }

    private static void theSlotKeepsIt() {
        SleepingIslands x = Checks.asleep("k1,1;1,1>0", 0);
        x.save(0);
        for (int time = 0; time < 3; time++) {
            x.wake(0);
            x.value(1, 100 + time);
            x.link(1, 0, false);
            x.pass(200);
            x.build(false, false, 1, 1);
            is.due("22: restore(0)", x.restore(0), 2);
            is.due("22: of(0, 0)", x.of(0, 0), 2);
            is.due("22: of(1, 1)", x.of(1, 1), 0);
            is.due("22: of(1, 7)", x.of(1, 7), 1);
            is.due("22: count(9)", x.count(9), 1);
            is.due("22: waiting(0)", x.waiting(0), -1);
        }
    }

    private static void restoreLeavesPadHistoryAndSlots() {
        SleepingIslands x = Checks.chip("1,1");
        Checks.put(x, "2,2");
        x.save(0);
        x.set(0, 5);
        x.save(1);
        x.put(';');
        is.due("22: count(13) ahead", x.count(13), 2);
        x.restore(0);
        is.due("22: count(12): the pad of now", x.count(12), 4);
        is.due("22: count(13): the history of now, and one more", x.count(13), 3);
        is.due("22: count(10)", x.count(10), 20);
        x.restore(1);
        is.due("22: count(10): the other slot is as it was", x.count(10), 5);
        for (int change = 0; change < 4; change++) {
            x.set(0, 40 + change);
        }
        x.restore(0);
        is.due("22: count(13): six at most", x.count(13), 6);
        is.due("22: undo() of restore", x.undo(), 5);
        is.due("22: count(10) undone", x.count(10), 43);
    }
}
