/** What can be undone and how often, and the snapshot. */
public final class ChangesTest extends Checks {
    /** A river where each change can be made: with room for everything, and with something of everything. */
    private static FloodStones river() {
        FloodStones x = new FloodStones();
        x.stone(0, 0, 1);
        x.stone(14, 2, 3);
        x.flood(80, 40, 3);
        x.flood(60, 30, 5);
        x.chisel();
        x.epoch(90, 4);
        x.cut(0, 0, 0);
        x.cut(1, 1, 0);
        x.years(4);
        x.line(0);
        return x;
    }

    /** The eleven calls that can be undone, the epoch in both ways. */
    private static final Asking[] CHANGES = {
        x -> x.stone(7, 7, 4), x -> x.flood(70, 50, 9), x -> x.epoch(95, -2), x -> x.epoch(90, 1),
        FloodStones::chisel, x -> x.cut(0, 1, 0), x -> x.efface(0, 0), x -> x.sharpen(0), x -> x.check(0),
        x -> x.witness(1, 9), x -> x.years(60),
        x -> carryOut(x, "m0:1/0;x0:0;k0;k1;s0;w0+9;y60;s0;y3")};

    private static void eachChangeCanBeUndone() {
        for (Asking change : CHANGES) {
            dueUntouched(ChangesTest::river, ALL_BUT_CHANGES, x -> {
                change.of(x);
                return x.undo();
            });
            dueUntouched(ChangesTest::river, ALL_BUT_CHANGES, x -> {
                change.of(x);
                x.years(1);
                x.undo();
                return x.undo();
            });
        }
    }

    private static void eachChangeCounts() {
        for (Asking change : CHANGES) {
            FloodStones x = river();
            due(8, () -> x.account(10));
            change.of(x);
            due(8, () -> x.account(10));
            x.save();
            x.undo();
            x.undo();
            x.undo();
            due(5, () -> x.account(10));
            FloodStones y = river();
            y.save();
            y.restore();
            due(0, () -> y.account(10));
            change.of(y);
            due(1, () -> y.account(10));
            due(0, y::undo);
            dueThrow(BAD_STATE, y::undo);
        }
    }

    /** A call that alters nothing of what it is about is one more change as well. */
    private static void changesThatAlterNothingCount() {
        FloodStones x = new FloodStones();
        x.stone(0, 0, 1);
        x.chisel();
        x.epoch(5, 5);
        due(3, () -> x.account(10));
        due(0, () -> x.check(0));
        due(4, () -> x.account(10));
        due(20, () -> x.sharpen(0));
        due(5, () -> x.account(10));
        due(1, () -> x.epoch(5, 5));
        due(6, () -> x.account(10));
        dueCommands(x, "k0;s0", 2);
        due(7, () -> x.account(10));
        due(6, x::undo);
        due(5, x::undo);
        due(4, x::undo);
        due(3, x::undo);
        due(1, () -> x.account(3));
        due(2, x::undo);
        due(0, () -> x.account(3));
    }

    private static void otherCallsAreNoChanges() {
        Asking[] others = {x -> x.append('k'), FloodStones::save, x -> x.line(0), x -> x.stoneOf(0, 0),
            x -> x.floodOf(0, 5), x -> x.ranked(0), FloodStones::doubts, FloodStones::doubtsAgain,
            x -> x.years(0), x -> x.cut(0, 0, 0), x -> x.stone(0, 0, 0), FloodStones::commands,
            x -> carryOut(x, "k0;k9"), x -> carryOut(x, "k0;"), x -> x.account(99), x -> x.estimate(0),
            x -> x.character(0), FloodStones::meanEdge, x -> x.reason(0), FloodStones::faultPosition};
        for (Asking other : others) {
            FloodStones x = new FloodStones();
            x.stone(0, 0, 1);
            x.flood(80, 40, 3);
            x.chisel();
            x.cut(0, 0, 0);
            x.witness(0, 1);
            made(other, x);
            due(5, () -> x.account(10));
            due(4, x::undo);
            due(3, () -> x.floodOf(0, 2));
            due(3, x::undo);
            due(0, () -> x.account(5));
        }
    }

    /** Makes a call that may throw; a text is gone then. */
    private static void made(Asking call, FloodStones x) {
        try {
            call.of(x);
        } catch (RuntimeException e) {
            due(0, () -> x.account(11));
        }
    }

    /** With each number of changes the latest eight are kept, and no more. */
    private static void theLatestEightAreKept() {
        for (int changes = 0; changes <= 30; changes++) {
            FloodStones x = new FloodStones();
            for (int i = 1; i <= changes; i++) {
                int kept = Math.min(i, 8);
                x.years(1);
                due(kept, () -> x.account(10));
            }
            int kept = Math.min(changes, 8);
            for (int i = 1; i <= kept; i++) {
                int left = kept - i;
                int year = 100 + changes - i;
                due(left, x::undo);
                due(left, () -> x.account(10));
                due(year, () -> x.account(0));
            }
            dueThrow(BAD_STATE, x::undo);
            int last = 100 + changes - kept;
            due(last, () -> x.account(0));
        }
    }

    /** Undoing and changing in turns: what is undone is forgotten, what is older is still there. */
    private static void undoneAndChangedInTurns() {
        for (int first = 1; first <= 12; first++) {
            for (int undone = 0; undone <= Math.min(first, 8); undone++) {
                for (int second = 0; second <= 9; second++) {
                    dueTurns(first, undone, second);
                }
            }
        }
    }

    private static void dueTurns(int first, int undone, int second) {
        FloodStones x = new FloodStones();
        for (int i = 0; i < first; i++) {
            x.years(1);
        }
        for (int i = 0; i < undone; i++) {
            x.undo();
        }
        int middle = 100 + first - undone;
        for (int i = 0; i < second; i++) {
            x.years(3);
        }
        int kept = Math.min(8, Math.min(first, 8) - undone + second);
        due(kept, () -> x.account(10));
        int year = middle + 3 * second;
        for (int i = 1; i <= kept; i++) {
            int left = kept - i;
            year -= year > middle ? 3 : 1;
            int due = year;
            due(left, x::undo);
            due(due, () -> x.account(0));
        }
        dueThrow(BAD_STATE, x::undo);
    }

    private static void undoOfNothing() {
        dueThrowAlone(BAD_STATE, Checks::empty, FloodStones::undo);
        Making undone = () -> {
            FloodStones x = full();
            for (int i = 0; i < 8; i++) {
                x.undo();
            }
            return x;
        };
        due(0, () -> undone.river().account(10));
        dueThrowAlone(BAD_STATE, undone, FloodStones::undo);
        Making restored = () -> {
            FloodStones x = full();
            x.restore();
            return x;
        };
        dueThrowAlone(BAD_STATE, restored, FloodStones::undo);
    }

    /** Eight changes of the full river, one after the other, from the latest one back. */
    private static void fullRiverIsUndone() {
        FloodStones x = full();
        due(7, x::undo);
        due(104, () -> x.account(0));
        due(0, () -> x.account(8));
        due(12, () -> x.account(5));
        due(1, () -> x.stoneOf(0, 3));
        due(11, () -> x.markOf(0, 0, 1));
        due(6, x::undo);
        due(14, () -> x.markOf(1, 4, 0));
        due(0, () -> x.account(7));
        due(13, () -> x.account(5));
        due(5, x::undo);
        dueThrow(NO_ELEMENT, () -> x.markOf(1, 7, 0));
        due(5, () -> x.edge(2));
        due(12, () -> x.account(6));
        due(4, x::undo);
        due(3, x::undo);
        due(2, x::undo);
        due(20, () -> x.edge(2));
        due(0, () -> x.stoneOf(1, 4));
        due(2, x::doubts);
        due(1, x::undo);
        due(-9, () -> x.shift(104));
        due(0, x::doubts);
        due(0, x::undo);
        due(2, () -> x.stoneOf(2, 4));
        due(16, () -> x.edge(1));
        due(8, () -> x.account(6));
        dueThrow(BAD_STATE, x::undo);
        dueWritten(x, "2: 19=90 20=76 25=83");
        due(3, x::faultPosition);
        dueReason(x, 3, 9, 0);
        due(4, () -> x.account(11));
    }

    /** Things that are undone are not there any more, and those set up instead are new. */
    private static void undoneThingsAreGone() {
        FloodStones x = new FloodStones();
        x.stone(50, 30, 5);
        x.flood(90, 99, 99);
        x.chisel();
        x.cut(0, 0, 0);
        x.years(60);
        for (int i = 0; i < 5; i++) {
            x.undo();
        }
        dueThrow(OUT_OF_BOUNDS, () -> x.stoneOf(0, 0));
        dueThrow(OUT_OF_BOUNDS, () -> x.floodOf(0, 0));
        dueThrow(OUT_OF_BOUNDS, () -> x.edge(0));
        dueThrow(NO_ELEMENT, () -> x.floodIn(90));
        dueThrow(NO_ELEMENT, () -> x.before(91));
        dueThrow(ARITHMETIC, x::meanEdge);
        dueRefusal(x, 3, 0, () -> x.cut(0, 0, 0));
        due(0, () -> x.stone(1, 2, 3));
        due(0, () -> x.flood(80, 20, 1));
        due(0, x::chisel);
        due(0, () -> x.stoneOf(0, 3));
        due(0, () -> x.stoneOf(0, 4));
        due(0, () -> x.floodOf(0, 3));
        due(20, () -> x.edge(0));
        due(18, () -> x.cut(0, 0, 0));
        due(1, () -> x.account(6));
        due(0, () -> x.account(8));
    }

    /** The text buffer, the fault position, the reason and the line stay as they are, at undo and at restore. */
    private static void whatDoesNotBelongStays() {
        FloodStones x = new FloodStones();
        x.stone(0, 0, 1);
        x.save();
        x.flood(80, 40, 3);
        x.chisel();
        x.cut(0, 0, 0);
        dueLine(x, 0, "0: 40=80");
        dueFault(x, "k0;k", 4);
        dueRefusal(x, 5, 40, () -> x.cut(0, 0, 0));
        type(x, "y6");
        for (int left = 3; left >= 0; left--) {
            due(left, x::undo);
            dueWritten(x, "0: 40=80");
            due(4, x::faultPosition);
            dueReason(x, 5, 40, 0);
            due(2, () -> x.account(11));
        }
        due(100, x::restore);
        dueWritten(x, "0: 40=80");
        due(4, x::faultPosition);
        dueReason(x, 5, 40, 0);
        due(2, () -> x.account(11));
        due(3, () -> x.append('0'));
        due(1, x::commands);
        due(160, () -> x.account(0));
        due(1, () -> x.account(1));
    }

    // save and restore

    private static void restoreOfNothing() {
        dueThrowAlone(BAD_STATE, Checks::empty, FloodStones::restore);
        dueThrowAlone(BAD_STATE, ChangesTest::river, FloodStones::restore);
        FloodStones x = river();
        dueThrow(BAD_STATE, x::restore);
        due(8, () -> x.account(10));
        due(7, x::undo);
        due(100, () -> x.account(0));
    }

    private static void snapshotOfAnEmptyRiver() {
        FloodStones x = new FloodStones();
        due(100, x::save);
        x.stone(0, 0, 1);
        x.flood(1, 50, 1);
        x.chisel();
        x.epoch(1, 1);
        x.cut(0, 0, 0);
        x.years(60);
        due(100, x::restore);
        for (int what = 1; what <= 11; what++) {
            int asked = what;
            due(0, () -> x.account(asked));
        }
        due(0, () -> x.shift(1));
        dueThrow(NO_ELEMENT, () -> x.floodIn(1));
        due(0, () -> x.stone(0, 0, 1));
    }

    /** What was saved comes back whole, however the river was altered, and again and again. */
    private static void snapshotIsKept() {
        for (Asking change : CHANGES) {
            dueAlike(ChangesTest::saved, ChangesTest::restored, ALL, x -> {
                change.of(x);
                return x.restore();
            });
            dueAlike(ChangesTest::saved, ChangesTest::restored, ALL, x -> {
                x.restore();
                change.of(x);
                x.years(1);
                x.restore();
                change.of(x);
                return x.restore();
            });
            dueAlike(ChangesTest::saved, ChangesTest::restored, ALL, x -> {
                change.of(x);
                x.undo();
                x.undo();
                return x.restore();
            });
        }
        dueAlike(ChangesTest::saved, ChangesTest::restored, ALL, x -> {
            otherRiverInPlace(x);
            return x.restore();
        });
        dueAlike(ChangesTest::saved, ChangesTest::restored, ALL, x -> {
            x.restore();
            x.years(3);
            otherRiverInPlace(x);
            x.restore();
            otherRiverInPlace(x);
            return x.restore();
        });
    }

    /** Undoes all that can be undone, and sets as many things up as there were, or more, with other numbers. */
    private static void otherRiverInPlace(FloodStones x) {
        while (x.account(10) > 0) {
            x.undo();
        }
        for (int stone = x.account(1); stone < 3; stone++) {
            x.stone(33, 11, 2);
        }
        for (int flood = x.account(2); flood < 3; flood++) {
            x.flood(20 + flood, 77, 66);
        }
        for (int chisel = x.account(4); chisel < 3; chisel++) {
            x.chisel();
        }
        x.epoch(89, -5);
        x.epoch(90, -6);
        x.years(7);
        x.cut(1, 2, 2);
        x.cut(0, 2, 2);
    }

    private static FloodStones saved() {
        FloodStones x = river();
        x.save();
        return x;
    }

    private static FloodStones restored() {
        FloodStones x = saved();
        x.restore();
        return x;
    }

    /** Restored, the river is what it was, but that nothing can be undone. */
    private static void restoredIsAsSaved() {
        for (Part part : ALL_BUT_CHANGES) {
            String want = told(saved(), part);
            due(1, () -> told(restored(), part).equals(want) ? 1 : 0);
        }
        FloodStones x = saved();
        due(8, () -> x.account(10));
        due(104, x::restore);
        due(0, () -> x.account(10));
        dueThrow(BAD_STATE, x::undo);
        due(4, () -> x.witness(0, 1));
        due(1, () -> x.account(10));
        due(0, x::undo);
        due(3, () -> x.floodOf(0, 2));
        dueThrow(BAD_STATE, x::undo);
    }

    private static void savedInPlaceOfAnEarlierOne() {
        FloodStones x = river();
        due(104, x::save);
        x.years(6);
        due(110, x::save);
        x.years(6);
        due(110, x::restore);
        x.years(60);
        due(170, x::save);
        due(170, x::save);
        x.years(1);
        due(170, x::restore);
        due(170, x::restore);
    }

    /** Saving is no change and is not undone; what can be undone is still there after it. */
    private static void savingIsNotUndone() {
        FloodStones x = new FloodStones();
        x.years(1);
        due(101, x::save);
        due(1, () -> x.account(10));
        due(0, x::undo);
        due(100, () -> x.account(0));
        dueThrow(BAD_STATE, x::undo);
        due(101, x::restore);
        dueThrow(BAD_STATE, x::undo);
        x.years(1);
        x.years(1);
        due(103, x::save);
        due(1, x::undo);
        due(0, x::undo);
        due(101, () -> x.account(0));
        due(103, x::restore);
        // what the snapshot does not alter: it is not a part of itself
        for (Part part : ALL) {
            if (part != Part.SNAPSHOT) {
                String want = told(full(), part);
                FloodStones y = full();
                y.save();
                due(1, () -> told(y, part).equals(want) ? 1 : 0);
            }
        }
    }

    /** The counts of marks cut, effaced and weathered away go back as well. */
    private static void countsGoBack() {
        FloodStones x = full();
        due(13, () -> x.account(6));
        due(1, () -> x.account(7));
        due(1, () -> x.account(8));
        due(100, x::restore);
        due(6, () -> x.account(6));
        due(0, () -> x.account(7));
        due(0, () -> x.account(8));
        due(6, () -> x.account(5));
        due(3, () -> x.account(3));
    }

    public static void main(String[] args) {
        eachChangeCanBeUndone();
        eachChangeCounts();
        changesThatAlterNothingCount();
        otherCallsAreNoChanges();
        theLatestEightAreKept();
        undoneAndChangedInTurns();
        undoOfNothing();
        fullRiverIsUndone();
        undoneThingsAreGone();
        whatDoesNotBelongStays();
        restoreOfNothing();
        snapshotOfAnEmptyRiver();
        snapshotIsKept();
        restoredIsAsSaved();
        savedInPlaceOfAnEarlierOne();
        savingIsNotUndone();
        countsGoBack();
        report();
    }
}
