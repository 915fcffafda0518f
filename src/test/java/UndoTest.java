/** Promises 30 to 32: undo, save, restore. */
public final class UndoTest {
    private static final int BAD_VALUE = ChalkSquares.BAD_VALUE, NOT_POSSIBLE = ChalkSquares.NOT_POSSIBLE;
    private static final int CHANGES = 15;

    private final Check check = new Check("UndoTest");

    public static void main(String[] args) {
        UndoTest test = new UndoTest();
        test.undoEachChange();
        test.sixStates();
        test.zeroToSixStatesAndASeventh();
        test.oldestIsDropped();
        test.changesThatDifferInNothing();
        test.theSameOnceMore();
        test.whatIsNoChange();
        test.refusedChanges();
        test.refusedCallsDropNoState();
        test.undoThenChange();
        test.undoLeavesPadAndSlots();
        test.save();
        test.restore();
        test.slotsInWhichNothingWasSaved();
        test.restoreEverything();
        test.asMuchAsThereCanBe();
        test.savedStatesStand();
        test.saveChangesTheSlotAlone();
        test.wrongSlots();
        test.check.end();
    }

    private static int change(ChalkSquares x, int kind) {
        switch (kind) {
            case 0: return x.set(ChalkSquares.EYE, 20);
            case 1: return x.set(ChalkSquares.FEET, 99);
            case 2: return x.square(0, 3, 6);
            case 3: return x.row(7, 5);
            case 4: return x.chalk(2, 9);
            case 5: return x.stroke(0, 7, 1);
            case 6: return x.rub(0, 5);
            case 7: return x.draw(0, 15);
            case 8: return x.mend();
            case 9: return x.awning(3, 3);
            case 10: return x.rain(2, 5);
            case 11: return x.crowd(1, 8, 3, 9);
            case 12: return x.pass(3);
            case 13: return x.carryOut();
            default: return x.restore(1);
        }
    }

    // Promise 30
    private void undoEachChange() {
        String before = Whole.stateOf(UndoTest::begun);
        for (int kind = 0; kind < CHANGES; kind++) {
            int which = kind;
            ChalkSquares x = begun();
            check.due("six changes can be undone", x.count(17), 6);
            check.holds("change " + kind, change(x, kind) >= 0);
            check.due("six changes at most", x.count(17), 6);
            check.due("undo", x.undo(), 5);
            check.holds("change " + kind + " is seen", kind == 8 || !before.equals(Whole.stateOf(() -> changed(which))));
            check.holds("change " + kind + " is undone", before.equals(Whole.stateOf(() -> undone(which))));
        }
    }

    /** An object in which each change but mend() changes something. */
    private static ChalkSquares begun() {
        ChalkSquares x = Scene.busy();
        x.rub(0, 6);
        x.set(ChalkSquares.MARK, 9);
        return x;
    }

    private static ChalkSquares changed(int kind) {
        ChalkSquares x = begun();
        change(x, kind);
        return x;
    }

    private static ChalkSquares undone(int kind) {
        ChalkSquares x = changed(kind);
        x.undo();
        return x;
    }

    private void sixStates() {
        ChalkSquares x = new ChalkSquares();
        check.due("nothing to undo", x.undo(), NOT_POSSIBLE);
        for (int n = 1; n <= 6; n++) {
            x.square(0, 0, n);
            check.due("changes", x.count(17), n);
        }
        for (int n = 5; n >= 0; n--) {
            check.due("undo", x.undo(), n);
            check.due("the hue before", x.of(0, 0, 0), n);
        }
        check.due("nothing to undo", x.undo(), NOT_POSSIBLE);
        check.due("the first state", x.of(0, 0, 0), 0);
    }

    private void zeroToSixStatesAndASeventh() {
        for (int changes = 0; changes <= 8; changes++) {
            ChalkSquares x = new ChalkSquares();
            for (int n = 1; n <= changes; n++) {
                x.chalk(3, 1);
            }
            int kept = Math.min(changes, 6);
            check.due("changes that can be undone of " + changes, x.count(17), kept);
            for (int left = kept - 1; left >= 0; left--) {
                check.due("undo", x.undo(), left);
                check.due("strokes", x.ofHue(3, 0), changes - kept + left);
            }
            check.due("nothing more", x.undo(), NOT_POSSIBLE);
            check.due("nor then", x.undo(), NOT_POSSIBLE);
            check.due("strokes", x.ofHue(3, 0), changes - kept);
            check.due("none can be undone", x.count(17), 0);
        }
    }

    private void oldestIsDropped() {
        ChalkSquares x = new ChalkSquares();
        for (int n = 1; n <= 30; n++) {
            x.chalk(1, 1);
        }
        check.due("six at most", x.count(17), 6);
        for (int n = 5; n >= 0; n--) {
            check.due("undo", x.undo(), n);
        }
        check.due("no more", x.undo(), NOT_POSSIBLE);
        check.due("24 changes stand", x.ofHue(1, 0), 24);
    }

    private void changesThatDifferInNothing() {
        ChalkSquares x = new ChalkSquares();
        x.set(ChalkSquares.EYE, 14);
        check.due("set to the same", x.count(17), 1);
        x.row(0, 0);
        check.due("row to the same", x.count(17), 2);
        x.square(0, 0, 0);
        check.due("square to the same", x.count(17), 3);
        x.draw(0, 0);
        check.due("nothing to draw", x.count(17), 4);
        x.mend();
        check.due("nothing to mend", x.count(17), 5);
    }

    private void theSameOnceMore() {
        ChalkSquares x = new ChalkSquares();
        x.chalk(1, 999);
        x.chalk(1, 999);
        check.due("chalk that is thrown away", x.count(17), 2);
        x.save(0);
        x.restore(0);
        check.due("restore of the same", x.count(17), 3);
        x.rub(5, 5);
        check.due("a bare flag is rubbed", x.count(17), 4);
        x.put('d');
        x.carryOut();
        check.due("a text that draws nothing", x.count(17), 5);
        x.undo();
        x.undo();
        check.due("the rubbing is undone", x.count(9), 0);
        x.undo();
        check.due("the chalk is there", x.ofHue(1, 0), 999);
        x.undo();
        check.due("as it was before the second one", x.ofHue(1, 0), 999);
        x.undo();
        check.due("and not before the first", x.ofHue(1, 0), 0);
    }

    private void whatIsNoChange() {
        ChalkSquares x = Scene.rowDrawn();
        x.put('d');
        x.fault();
        x.wipe();
        x.save(0);
        x.from(14, 8, 8);
        x.bestMark(0);
        x.needs(1);
        x.lastsFor();
        x.rightIn(5);
        x.bestAwning(5, 0);
        x.at(0, 0, 0);
        x.of(0, 0, 0);
        x.squares(0, 0);
        x.ofHue(0, 0);
        x.rains(0);
        check.due("three changes", x.count(17), 3);
        check.due("undo", x.undo(), 2);
        check.due("the drawing is undone", x.count(3), 0);
        check.due("undo is no change", x.count(17), 2);
    }

    private void refusedChanges() {
        ChalkSquares x = new ChalkSquares();
        x.chalk(1, 1);
        x.set(9, 9);
        x.square(9, 9, 9);
        x.row(9, 9);
        x.chalk(9, 9);
        x.stroke(0, 0, 9);
        x.stroke(0, 0, 3);
        x.rub(99, 0);
        x.draw(9, 0);
        x.awning(99, 0);
        x.rain(0, 99);
        x.crowd(9, 0, 0, 0);
        x.pass(0);
        x.carryOut();
        x.restore(0);
        x.restore(5);
        check.due("one change", x.count(17), 1);
        check.due("undo", x.undo(), 0);
        check.due("the chalk is undone", x.ofHue(1, 0), 0);
    }

    private void refusedCallsDropNoState() {
        ChalkSquares x = new ChalkSquares();
        for (int n = 1; n <= 7; n++) {
            x.chalk(1, 1);
        }
        for (int n = 0; n < 20; n++) {
            x.chalk(8, 1);
            x.stroke(0, 0, 2);
            x.pass(49);
            x.carryOut();
            x.restore(0);
        }
        check.due("six can be undone", x.count(17), 6);
        for (int left = 5; left >= 0; left--) {
            x.set(6, 0);
            check.due("undo", x.undo(), left);
            check.due("strokes", x.ofHue(1, 0), 1 + left);
        }
        check.due("nothing more", x.undo(), NOT_POSSIBLE);
    }

    private void undoThenChange() {
        ChalkSquares x = new ChalkSquares();
        for (int n = 1; n <= 7; n++) {
            x.square(1, 1, n);
        }
        x.undo();
        x.undo();
        check.due("hue", x.of(1, 1, 0), 5);
        x.square(1, 1, 0);
        check.due("changes", x.count(17), 5);
        check.due("undo", x.undo(), 4);
        check.due("hue", x.of(1, 1, 0), 5);
        check.due("undo", x.undo(), 3);
        check.due("hue", x.of(1, 1, 0), 4);
    }

    private void undoLeavesPadAndSlots() {
        ChalkSquares x = new ChalkSquares();
        x.chalk(1, 5);
        x.save(0);
        x.put('d');
        check.due("undo", x.undo(), 0);
        check.due("the pad stays", x.count(16), 1);
        check.due("the slot stays", x.restore(0), 0);
        check.due("with its chalk", x.ofHue(1, 0), 5);
        check.due("carryOut()", x.carryOut(), 1);
        check.due("undo", x.undo(), 1);
        check.due("the pad stays empty", x.count(16), 0);
    }

    // Promise 31
    private void save() {
        ChalkSquares x = Scene.rowDrawn();
        check.due("flags that are not bare", x.save(0), 9);
        x.rub(0, 4);
        check.due("in the other slot", x.save(1), 8);
        check.due("restore(0)", x.restore(0), 9);
        check.due("restore(1)", x.restore(1), 8);
        x.rub(0, 5);
        check.due("overwrites", x.save(0), 7);
        check.due("restore(1)", x.restore(1), 8);
        check.due("restore(0)", x.restore(0), 7);
        check.due("a slot keeps what it has", x.restore(0), 7);
    }

    // Promise 32
    private void restore() {
        ChalkSquares x = Scene.rowDrawn();
        check.due("nothing was saved", x.restore(0), NOT_POSSIBLE);
        check.due("no change", x.count(17), 3);
        x.save(0);
        check.due("nothing was saved in the other", x.restore(1), NOT_POSSIBLE);
        x.put('d');
        x.rub(0, 4);
        check.due("restore(0)", x.restore(0), 9);
        check.due("is a change", x.count(17), 5);
        check.due("the pad stays", x.count(16), 1);
        check.due("rubbings are as they were", x.count(9), 0);
        check.due("undo", x.undo(), 4);
        check.due("the rubbing is back", x.count(9), 1);
        check.due("undo", x.undo(), 3);
        check.due("the history went on", x.count(9), 0);
    }

    private void slotsInWhichNothingWasSaved() {
        ChalkSquares x = new ChalkSquares();
        check.due("restore(0)", x.restore(0), NOT_POSSIBLE);
        check.due("restore(1)", x.restore(1), NOT_POSSIBLE);
        check.due("save(1)", x.save(1), 0);
        check.due("restore(0)", x.restore(0), NOT_POSSIBLE);
        check.due("restore(1)", x.restore(1), 0);
        x.undo();
        check.due("undo does not take the slot away", x.restore(1), 0);
        check.due("nor fill the other", x.restore(0), NOT_POSSIBLE);
        check.due("save(0)", x.save(0), 0);
        check.due("restore(0)", x.restore(0), 0);
    }

    private void restoreEverything() {
        String before = Whole.stateOf(Scene::busy);
        check.holds("everything is restored", before.equals(Whole.stateOf(UndoTest::restored)));
    }

    /** 24 rains, each in an hour of its own, and 12 crowds, each in an hour and on a row of its own. */
    private static ChalkSquares asMuchTold() {
        ChalkSquares x = new ChalkSquares();
        for (int n = 0; n < 24; n++) {
            x.rain(4 * n, 1 + n % 9);
        }
        for (int n = 0; n < 12; n++) {
            x.crowd(0, n, 2 * n, 1 + n);
        }
        return x;
    }

    private void asMuchAsThereCanBe() {
        ChalkSquares x = asMuchTold();
        x.save(0);
        x.pass(24);
        check.due("six rains are over", x.count(1), 18);
        check.due("undo", x.undo(), 5);
        allIsTold(x, "behind undo");
        x.pass(48);
        check.due("twelve rains are over", x.count(1), 12);
        check.due("restore", x.restore(0), 0);
        allIsTold(x, "behind restore");
        x.restore(0);
        check.due("24 hours", x.pass(24), 0);
        for (int n = 0; n < 12; n++) {
            check.due("feet on the row " + n, x.at(n, 3, 4), (1 + n) % 10);
        }
    }

    private void allIsTold(ChalkSquares x, String when) {
        check.due("rains " + when, x.count(1), 24);
        for (int n = 0; n < 24; n++) {
            check.due("rain " + n + " " + when, x.rains(4 * n), 1 + n % 9);
        }
        check.due("one more " + when, x.rain(0, 1), ChalkSquares.TOO_MANY);
        check.due("crowds " + when, x.count(2), 12);
        check.due("one more " + when, x.crowd(0, 0, 0, 1), ChalkSquares.TOO_MANY);
    }

    private static ChalkSquares restored() {
        ChalkSquares x = Scene.busy();
        x.save(1);
        for (int kind = 0; kind < CHANGES - 1; kind++) {
            change(x, kind);
        }
        x.restore(1);
        return x;
    }

    private void savedStatesStand() {
        ChalkSquares x = new ChalkSquares();
        x.chalk(1, 10);
        x.save(0);
        x.restore(0);
        x.stroke(0, 0, 1);
        x.rain(1, 1);
        x.crowd(0, 0, 0, 1);
        check.due("what is done then does not touch the slot", x.restore(0), 0);
        check.due("chalk", x.ofHue(1, 0), 10);
        check.due("rains", x.count(1), 0);
        check.due("crowds", x.count(2), 0);
        check.due("strokes", x.count(8), 0);
    }

    private void saveChangesTheSlotAlone() {
        check.holds("the state stays", Whole.stateOf(Scene::busy).equals(Whole.stateOf(UndoTest::saved)));
        ChalkSquares x = saved();
        check.due("changes", x.count(17), 6);
        check.due("the pad", x.count(16), 4);
        check.due("undo", x.undo(), 5);
        check.due("the state that was saved", x.restore(0), 9);
        check.due("has its hour", x.count(0), 1);
        check.due("the other slot has its own", x.restore(1), 9);
        check.due("an hour before", x.count(0), 0);
        check.due("the pad is as it was", x.count(16), 4);
    }

    private static ChalkSquares saved() {
        ChalkSquares x = Scene.busy();
        x.save(0);
        return x;
    }

    private void wrongSlots() {
        ChalkSquares x = Scene.busy();
        int[] none = {-1, 2, Integer.MIN_VALUE, Integer.MAX_VALUE};
        for (int slot : none) {
            check.due("save(" + slot + ")", x.save(slot), BAD_VALUE);
            check.due("restore(" + slot + ")", x.restore(slot), BAD_VALUE);
        }
        check.due("the changes are as they were", x.count(17), 6);
    }
}
