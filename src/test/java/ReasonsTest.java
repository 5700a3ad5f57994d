/** The refused calls: which reason comes first, its detail, that it is kept, and that nothing else is changed. */
public final class ReasonsTest extends Checks {
    private static final int LEAST = Integer.MIN_VALUE;
    private static final int MOST = Integer.MAX_VALUE;

    // stone: 1, 2

    private static void stoneIsRefused() {
        for (Making making : new Making[] {Checks::empty, Checks::full}) {
            dueRefusal(making, 1, 0, x -> x.stone(-1, 0, 1));
            dueRefusal(making, 1, 0, x -> x.stone(51, 0, 1));
            dueRefusal(making, 1, 0, x -> x.stone(0, -1, 1));
            dueRefusal(making, 1, 0, x -> x.stone(0, 31, 1));
            dueRefusal(making, 1, 0, x -> x.stone(0, 0, 0));
            dueRefusal(making, 1, 0, x -> x.stone(0, 0, 6));
            dueRefusal(making, 1, 0, x -> x.stone(LEAST, MOST, LEAST));
        }
        dueRefusal(Checks::full, 2, 6, x -> x.stone(0, 0, 1));
        dueRefusal(Checks::full, 2, 6, x -> x.stone(50, 30, 5));
    }

    // flood: 1, 4, 2

    private static void floodIsRefused() {
        for (Making making : new Making[] {Checks::empty, Checks::full}) {
            int present = making.river().account(0);
            dueRefusal(making, 1, 0, x -> x.flood(-1, 1, 0));
            dueRefusal(making, 1, 0, x -> x.flood(present + 1, 1, 0));
            dueRefusal(making, 1, 0, x -> x.flood(1, 0, 0));
            dueRefusal(making, 1, 0, x -> x.flood(1, 100, 0));
            dueRefusal(making, 1, 0, x -> x.flood(1, 1, -1));
            dueRefusal(making, 1, 0, x -> x.flood(1, 1, 100));
            dueRefusal(making, 1, 0, x -> x.flood(LEAST, MOST, LEAST));
        }
        // 1 ahead of 4: the year 90 is told for
        dueRefusal(Checks::full, 1, 0, x -> x.flood(90, 0, 0));
        dueRefusal(Checks::full, 1, 0, x -> x.flood(90, 100, 0));
        dueRefusal(Checks::full, 1, 0, x -> x.flood(90, 1, -1));
        dueRefusal(Checks::full, 1, 0, x -> x.flood(90, 1, 100));
        // 4 ahead of 2
        dueRefusal(Checks::full, 4, 0, x -> x.flood(90, 1, 0));
        dueRefusal(Checks::full, 4, 11, x -> x.flood(13, 99, 99));
        dueRefusal(Checks::full, 2, 12, x -> x.flood(14, 99, 99));
        dueRefusal(Checks::full, 2, 12, x -> x.flood(0, 1, 0));
        dueRefusal(Checks::full, 2, 12, x -> x.flood(115, 1, 0));
        dueRefusal(ReasonsTest::river, 4, 0, x -> x.flood(80, 1, 0));
        dueRefusal(ReasonsTest::river, 4, 1, x -> x.flood(60, 20, 0));
    }

    /** Two stones, two floods, of which the second one does not reach the stone 1, and a chisel. */
    private static FloodStones river() {
        FloodStones x = new FloodStones();
        x.stone(0, 0, 1);
        x.stone(50, 30, 2);
        x.flood(80, 70, 90);
        x.flood(60, 31, 99);
        x.chisel();
        x.years(2);
        return x;
    }

    // epoch: 1, 2; chisel: 2

    private static void epochIsRefused() {
        for (Making making : new Making[] {Checks::empty, Checks::full}) {
            dueRefusal(making, 1, 0, x -> x.epoch(-1, 0));
            dueRefusal(making, 1, 0, x -> x.epoch(1000, 0));
            dueRefusal(making, 1, 0, x -> x.epoch(50, -10));
            dueRefusal(making, 1, 0, x -> x.epoch(50, 10));
            dueRefusal(making, 1, 0, x -> x.epoch(51, 10));
            dueRefusal(making, 1, 0, x -> x.epoch(MOST, LEAST));
        }
        dueRefusal(Checks::full, 2, 4, x -> x.epoch(51, 0));
        dueRefusal(Checks::full, 2, 4, x -> x.epoch(0, 9));
        dueRefusal(Checks::full, 2, 4, x -> x.epoch(999, -9));
        due(4, () -> full().epoch(50, 9));
        due(4, () -> full().epoch(104, -9));
    }

    private static void chiselIsRefused() {
        dueRefusal(Checks::full, 2, 3, FloodStones::chisel);
    }

    // cut: 3, 5, 6, 7, 8, 9, 2

    private static void cutKnowsNoSuchThing() {
        for (int out : new int[] {-1, 6, 9, LEAST, MOST}) {
            dueRefusal(Checks::full, 3, out, x -> x.cut(out, 0, 0));
        }
        for (int out : new int[] {-1, 12, 99, LEAST, MOST}) {
            dueRefusal(Checks::full, 3, out, x -> x.cut(0, out, 0));
        }
        for (int out : new int[] {-1, 3, 9, LEAST, MOST}) {
            dueRefusal(Checks::full, 3, out, x -> x.cut(3, 0, out));
        }
        // the stone ahead of the flood, the flood ahead of the chisel
        dueRefusal(Checks::empty, 3, 0, x -> x.cut(0, 1, 2));
        dueRefusal(Checks::empty, 3, -5, x -> x.cut(-5, -6, -7));
        dueRefusal(ReasonsTest::river, 3, 2, x -> x.cut(2, 3, 4));
        dueRefusal(ReasonsTest::river, 3, 2, x -> x.cut(2, 0, 0));
        dueRefusal(ReasonsTest::river, 3, 3, x -> x.cut(1, 3, 4));
        dueRefusal(ReasonsTest::river, 3, 2, x -> x.cut(1, 2, 0));
        dueRefusal(ReasonsTest::river, 3, 4, x -> x.cut(1, 0, 4));
        dueRefusal(ReasonsTest::river, 3, 1, x -> x.cut(1, 0, 1));
        // ahead of 5, 6, 7 and 2: an unknown chisel
        dueRefusal(Checks::full, 3, 3, x -> x.cut(0, 0, 3));
        dueRefusal(Checks::full, 3, 3, x -> x.cut(1, 0, 3));
        dueRefusal(Checks::full, 3, 3, x -> x.cut(4, 11, 3));
        dueRefusal(Checks::full, 3, 3, x -> x.cut(0, 6, 3));
    }

    /**
     * The stone 0 with marks for the floods 0 to 5 at the heights 90 to 95, made with the chisel 0, and the chisel 1
     * with the edge 0. The flood 6 has the crest 96, the flood 7 the crest 93.
     */
    private static FloodStones crowded(int shift) {
        FloodStones x = new FloodStones();
        x.stone(0, 0, 1);
        x.stone(0, 0, 5);
        x.chisel();
        x.chisel();
        for (int flood = 0; flood < 7; flood++) {
            x.flood(flood, 90 + flood, 0);
        }
        x.flood(7, 93, 0);
        for (int flood = 0; flood < 6; flood++) {
            x.cut(0, flood, 0);
        }
        for (int flood = 0; flood < 4; flood++) {
            x.cut(1, flood, 1);
        }
        x.epoch(100, shift);
        return x;
    }

    /** 5 comes ahead of 7, 8, 9 and 2; its detail is the height of the mark, not what the staff reads. */
    private static void cutFindsAMark() {
        dueRefusal(() -> crowded(0), 5, 90, x -> x.cut(0, 0, 0));
        dueRefusal(() -> crowded(0), 5, 95, x -> x.cut(0, 5, 1));
        dueRefusal(() -> crowded(3), 5, 92, x -> x.cut(0, 2, 0));
        dueRefusal(() -> crowded(9), 5, 95, x -> x.cut(0, 5, 0));
        dueRefusal(() -> crowded(9), 5, 95, x -> x.cut(0, 5, 1));
        dueRefusal(() -> crowded(0), 5, 93, x -> x.cut(1, 3, 0));
        dueRefusal(Checks::full, 5, 20, x -> x.cut(1, 5, 2));
        dueRefusal(Checks::full, 5, 26, x -> x.cut(1, 6, 0));
    }

    /**
     * The stone 0, where 40 is lost, with six marks, of which that for the flood 3 is at the height 5, and the
     * chisel 0 with the edge 0. The floods 0, 1 and 2 have the levels 0, -39 and 1.
     */
    private static FloodStones low(int shift) {
        FloodStones x = new FloodStones();
        x.stone(50, 30, 5);
        x.chisel();
        x.chisel();
        x.flood(0, 40, 0);
        x.flood(1, 1, 0);
        x.flood(2, 41, 0);
        for (int flood = 3; flood < 9; flood++) {
            x.flood(flood, 42 + flood, 0);
            x.cut(0, flood, flood < 7 ? 0 : 1);
        }
        x.epoch(100, shift);
        return x;
    }

    /** 6 comes ahead of 7, 8, 9 and 2. */
    private static void cutIsNotReached() {
        dueRefusal(() -> low(0), 6, 1, x -> x.cut(0, 0, 1));
        dueRefusal(() -> low(0), 6, 40, x -> x.cut(0, 1, 1));
        dueRefusal(() -> low(0), 6, 40, x -> x.cut(0, 1, 0));
        dueRefusal(() -> low(-9), 6, 1, x -> x.cut(0, 0, 0));
        dueRefusal(() -> low(5), 6, 1, x -> x.cut(0, 0, 1));
        dueRefusal(() -> low(5), 6, 1, x -> x.cut(0, 0, 0));
        dueRefusal(ReasonsTest::river, 6, 10, x -> x.cut(1, 1, 0));
        // the error and the shift do not help
        dueRefusal(Checks::full, 6, 15, x -> x.cut(1, 1, 0));
        dueRefusal(Checks::full, 6, 3, x -> x.cut(1, 3, 0));
    }

    /** 7 comes ahead of 8 and 2. */
    private static void cutIsOutOfHeights() {
        dueRefusal(() -> crowded(9), 7, 105, x -> x.cut(0, 6, 1));
        dueRefusal(() -> crowded(9), 7, 105, x -> x.cut(0, 6, 0));
        dueRefusal(() -> crowded(4), 7, 100, x -> x.cut(0, 6, 1));
        dueRefusal(() -> crowded(4), 7, 100, x -> x.cut(1, 6, 1));
        dueRefusal(() -> low(-2), 7, -1, x -> x.cut(0, 2, 0));
        dueRefusal(() -> low(-2), 7, -1, x -> x.cut(0, 2, 1));
        dueRefusal(() -> low(-9), 7, -8, x -> x.cut(0, 2, 0));
        dueRefusal(Checks::full, 7, 100, x -> x.cut(4, 11, 0));
        dueRefusal(Checks::full, 7, 100, x -> x.cut(0, 11, 2));
    }

    /** 8 comes ahead of 9 and 2. */
    private static void cutIsWithABluntChisel() {
        dueRefusal(() -> crowded(3), 8, 0, x -> x.cut(0, 6, 1));
        dueRefusal(() -> crowded(0), 8, 0, x -> x.cut(0, 7, 1));
        dueRefusal(() -> crowded(0), 8, 0, x -> x.cut(1, 7, 1));
        dueRefusal(() -> low(-1), 8, 0, x -> x.cut(0, 2, 0));
        dueRefusal(() -> low(4), 8, 0, x -> x.cut(0, 2, 0));
        dueRefusal(Checks::full, 8, 0, x -> x.cut(3, 0, 2));
        dueRefusal(ReasonsTest::blunted, 8, 4, x -> x.cut(1, 4, 0));
        dueRefusal(ReasonsTest::blunted, 8, 4, x -> x.cut(1, 5, 0));
    }

    /** A chisel with the edge 4, the stone 1 with the hardness 5, a mark on it for the flood 3, as high as 5. */
    private static FloodStones blunted() {
        FloodStones x = new FloodStones();
        x.stone(0, 0, 4);
        x.stone(0, 0, 5);
        x.chisel();
        x.chisel();
        for (int flood = 0; flood < 5; flood++) {
            x.flood(flood, 50 + flood, 0);
        }
        x.flood(5, 53, 0);
        for (int flood = 0; flood < 4; flood++) {
            x.cut(0, flood, 0);
        }
        x.cut(1, 3, 1);
        return x;
    }

    /** 9 comes ahead of 2; its detail is the flood of the mark. */
    private static void cutFindsAMarkAtTheHeight() {
        dueRefusal(() -> crowded(0), 9, 3, x -> x.cut(0, 7, 0));
        dueRefusal(() -> crowded(-3), 9, 0, x -> x.cut(0, 7, 0));
        dueRefusal(() -> crowded(2), 9, 5, x -> x.cut(0, 7, 0));
        dueRefusal(() -> crowded(-1), 9, 5, x -> x.cut(0, 6, 0));
        dueRefusal(() -> crowded(0), 9, 3, x -> x.cut(1, 7, 0));
        dueRefusal(() -> crowded(-1), 9, 2, x -> x.cut(1, 7, 0));
        dueRefusal(() -> low(4), 9, 3, x -> x.cut(0, 2, 1));
        dueRefusal(() -> low(9), 9, 8, x -> x.cut(0, 2, 1));
        dueRefusal(ReasonsTest::blunted, 9, 3, x -> x.cut(1, 5, 1));
    }

    private static void cutIsOneTooMany() {
        dueRefusal(() -> crowded(0), 2, 6, x -> x.cut(0, 6, 0));
        dueRefusal(() -> crowded(3), 2, 6, x -> x.cut(0, 7, 0));
        dueRefusal(() -> low(0), 2, 6, x -> x.cut(0, 2, 1));
        dueRefusal(Checks::full, 2, 6, x -> x.cut(0, 7, 0));
        due(96, () -> crowded(0).cut(1, 6, 0));
        due(99, () -> crowded(3).cut(1, 6, 0));
        due(86, () -> crowded(-9).cut(1, 5, 0));
    }

    // efface: 3, 10

    private static void effaceIsRefused() {
        for (int out : new int[] {-1, 6, LEAST, MOST}) {
            dueRefusal(Checks::full, 3, out, x -> x.efface(out, 0));
            dueRefusal(Checks::full, 3, out, x -> x.efface(out, 77));
        }
        for (int out : new int[] {-1, 12, LEAST, MOST}) {
            dueRefusal(Checks::full, 3, out, x -> x.efface(0, out));
        }
        dueRefusal(Checks::empty, 3, 0, x -> x.efface(0, 1));
        dueRefusal(Checks::full, 10, 6, x -> x.efface(0, 6));
        dueRefusal(Checks::full, 10, 0, x -> x.efface(1, 0));
        // one that is effaced, and one that weathered away
        dueRefusal(Checks::full, 10, 4, x -> x.efface(1, 4));
        dueRefusal(Checks::full, 10, 7, x -> x.efface(1, 7));
        dueRefusal(Checks::full, 10, 11, x -> x.efface(5, 11));
        due(20, () -> full().efface(1, 5));
        due(50, () -> full().efface(0, 5));
    }

    // sharpen, check: 3

    private static void sharpenAndCheckAreRefused() {
        for (int out : new int[] {-1, 3, LEAST, MOST}) {
            dueRefusal(Checks::full, 3, out, x -> x.sharpen(out));
        }
        for (int out : new int[] {-1, 6, LEAST, MOST}) {
            dueRefusal(Checks::full, 3, out, x -> x.check(out));
        }
        dueRefusal(Checks::empty, 3, 0, x -> x.sharpen(0));
        dueRefusal(Checks::empty, 3, 0, x -> x.check(0));
        dueRefusal(ReasonsTest::river, 3, 1, x -> x.sharpen(1));
        dueRefusal(ReasonsTest::river, 3, 2, x -> x.check(2));
        due(0, () -> full().sharpen(2));
        due(14, () -> full().sharpen(0));
        due(5, () -> full().check(5));
        due(5, () -> full().check(0));
    }

    // witness: 3, 1, 2

    private static void witnessIsRefused() {
        for (int out : new int[] {-1, 12, LEAST, MOST}) {
            dueRefusal(Checks::full, 3, out, x -> x.witness(out, 1));
            dueRefusal(Checks::full, 3, out, x -> x.witness(out, 0));
        }
        dueRefusal(Checks::empty, 3, 0, x -> x.witness(0, 10));
        for (int out : beyond(1, 9)) {
            dueRefusal(Checks::full, 1, 0, x -> x.witness(0, out));
            // 1 ahead of 2: the flood 11 has 99 witnesses
            dueRefusal(Checks::full, 1, 0, x -> x.witness(11, out));
        }
        for (int more = 1; more <= 9; more++) {
            int number = more;
            dueRefusal(Checks::full, 2, 99, x -> x.witness(11, number));
            due(90 + number, () -> full().witness(10, number));
            due(number, () -> full().witness(0, number));
        }
        for (int there = 90; there <= 99; there++) {
            int most = 99 - there;
            FloodStones x = new FloodStones();
            x.flood(5, 5, there);
            if (most < 9) {
                dueRefusal(x, 2, 99, () -> x.witness(0, most + 1));
            }
            if (most > 0) {
                due(99, () -> x.witness(0, most));
            }
            due(99, () -> x.floodOf(0, 2));
        }
    }

    // years: 1

    private static void yearsAreRefused() {
        for (int out : beyond(1, 60)) {
            dueRefusal(Checks::empty, 1, 0, x -> x.years(out));
            dueRefusal(Checks::full, 1, 0, x -> x.years(out));
        }
        for (int years = 1; years <= 60; years++) {
            int number = years;
            FloodStones x = new FloodStones();
            due(0, () -> x.years(number));
            due(100 + number, () -> x.account(0));
        }
    }

    // What is kept

    private static void reasonIsKept() {
        dueThrowAlone(NO_ELEMENT, Checks::empty, x -> x.reason(0));
        dueThrowAlone(NO_ELEMENT, Checks::empty, x -> x.reason(1));
        dueThrowAlone(NO_ELEMENT, Checks::empty, x -> x.reason(2));
        dueThrowAlone(NO_ELEMENT, Checks::fullUntouched, x -> x.reason(0));
        dueReason(full(), 3, 9, 0);
    }

    /** Each reason takes the place of the one before, with its own detail and index. */
    private static void reasonsFollowOneAnother() {
        FloodStones x = crowded(0);
        dueRefusal(x, 5, 90, () -> x.cut(0, 0, 0));
        dueRefusal(x, 1, 0, () -> x.years(0));
        dueRefusal(x, 9, 3, () -> x.cut(0, 7, 0));
        dueRefusedCommand(x, "k0;s0;k1;x1:9", 3, 9, 3);
        dueRefusal(x, 8, 0, () -> x.cut(0, 6, 1));
        dueRefusedCommand(x, "k0;y0", 1, 0, 1);
        dueRefusedCommand(x, "x1:7", 10, 7, 0);
        dueRefusal(x, 2, 6, () -> x.cut(0, 6, 0));
    }

    /** Nothing but a refused call alters the reason. */
    private static void reasonStays() {
        Asking[] calls = {x -> x.years(1), x -> x.sharpen(2), x -> x.check(0), x -> x.witness(0, 1),
            x -> x.epoch(50, 2), x -> x.efface(1, 5), FloodStones::undo, FloodStones::save, FloodStones::restore,
            x -> x.append('y'), FloodStones::commands, x -> carryOut(x, "/0;k0"), x -> x.line(9), x -> x.line(1),
            x -> x.reason(5), x -> x.account(99), x -> x.estimate(11), x -> x.cut(4, 0, 0)};
        for (Asking call : calls) {
            FloodStones x = full();
            try {
                call.of(x);
            } catch (RuntimeException e) {
                due(0, () -> e.getClass() == REFUSED ? 1 : 0);
            }
            dueReason(x, 3, 9, 0);
        }
    }

    public static void main(String[] args) {
        stoneIsRefused();
        floodIsRefused();
        epochIsRefused();
        chiselIsRefused();
        cutKnowsNoSuchThing();
        cutFindsAMark();
        cutIsNotReached();
        cutIsOutOfHeights();
        cutIsWithABluntChisel();
        cutFindsAMarkAtTheHeight();
        cutIsOneTooMany();
        effaceIsRefused();
        sharpenAndCheckAreRefused();
        witnessIsRefused();
        yearsAreRefused();
        reasonIsKept();
        reasonsFollowOneAnother();
        reasonStays();
        report();
    }
}
