/** The boundary cases of the paragraphs of 'Terms': years, stones, floods, epochs, chisels, marks and doubts. */
public final class TermsTest extends Checks {
    /** The full river is what the other tests take it for. */
    private static void fullRiver() {
        int[] accounts = {115, 6, 12, 4, 3, 11, 13, 1, 1, 1, 8, 4};
        for (int what = 0; what < accounts.length; what++) {
            int asked = what;
            due(accounts[asked], () -> full().account(asked));
        }
        FloodStones x = full();
        dueWritten(x, "2: 19=90 20=76 25=83");
        due(3, x::faultPosition);
        dueReason(x, 3, 9, 0);
        due(14, () -> x.edge(0));
        due(14, () -> x.edge(1));
        due(0, () -> x.edge(2));
        due(2, () -> x.stoneOf(2, 5));
        due(5, () -> x.stoneOf(5, 3));
        dueLine(x, 0, "0: 20=90 26=83 32=76 38=69 44=62 50=55");
        dueLine(x, 1, "1: 20=55 26=48");
    }

    // Divisions

    private static void fifthsAreRoundedDown() {
        int fifth = 0;
        for (int place = 0; place <= 50; place++) {
            fifth += place > 0 && place % 5 == 0 ? 1 : 0;
            FloodStones x = new FloodStones();
            x.stone(place, 0, 1);
            x.flood(1, 99, 0);
            due(99 - fifth, () -> x.level(0, 0));
        }
        FloodStones x = new FloodStones();
        x.stone(4, 0, 1);
        x.stone(5, 0, 1);
        x.stone(49, 30, 1);
        x.stone(50, 30, 1);
        x.flood(1, 1, 0);
        due(1, () -> x.level(0, 0));
        due(0, () -> x.level(1, 0));
        due(-38, () -> x.level(2, 0));
        due(-39, () -> x.level(3, 0));
    }

    // Years

    private static void yearIsAHundredAtFirst() {
        FloodStones x = new FloodStones();
        due(100, () -> x.account(0));
        due(100, x::save);
        due(0, () -> x.years(1));
        due(101, () -> x.account(0));
    }

    // Stones

    private static void stonesHaveRanges() {
        for (int place = 0; place <= 50; place++) {
            int number = place;
            FloodStones x = new FloodStones();
            due(0, () -> x.stone(number, 0, 1));
            due(number, () -> x.stoneOf(0, 0));
        }
        for (int base = 0; base <= 30; base++) {
            int number = base;
            FloodStones x = new FloodStones();
            due(0, () -> x.stone(0, number, 1));
            due(number, () -> x.stoneOf(0, 1));
        }
        for (int hardness = 1; hardness <= 5; hardness++) {
            int number = hardness;
            FloodStones x = new FloodStones();
            due(0, () -> x.stone(0, 0, number));
            due(number, () -> x.stoneOf(0, 2));
        }
        for (int out : beyond(0, 50)) {
            dueRefusal(Checks::empty, 1, 0, x -> x.stone(out, 0, 1));
        }
        for (int out : beyond(0, 30)) {
            dueRefusal(Checks::empty, 1, 0, x -> x.stone(0, out, 1));
        }
        for (int out : beyond(1, 5)) {
            dueRefusal(Checks::empty, 1, 0, x -> x.stone(0, 0, out));
        }
        FloodStones x = new FloodStones();
        due(0, () -> x.stone(50, 30, 5));
        due(1, () -> x.stone(0, 0, 1));
    }

    private static void stonesAreSixAtMost() {
        FloodStones x = new FloodStones();
        for (int stone = 0; stone < 6; stone++) {
            int number = stone;
            due(number, () -> x.account(1));
            dueThrow(OUT_OF_BOUNDS, () -> x.stoneOf(number, 0));
            due(number, () -> x.stone(40 + number, 20 + number, 1 + number % 5));
        }
        dueRefusal(x, 2, 6, () -> x.stone(1, 1, 1));
        due(6, () -> x.account(1));
        for (int stone = 0; stone < 6; stone++) {
            int number = stone;
            due(40 + number, () -> x.stoneOf(number, 0));
            due(20 + number, () -> x.stoneOf(number, 1));
            due(1 + number % 5, () -> x.stoneOf(number, 2));
            due(0, () -> x.stoneOf(number, 3));
            due(0, () -> x.stoneOf(number, 4));
            due(0, () -> x.stoneOf(number, 5));
        }
        dueRefusal(Checks::full, 2, 6, y -> y.stone(0, 0, 1));
        dueRefusal(Checks::full, 1, 0, y -> y.stone(0, 0, 6));
        x.undo();
        due(5, () -> x.stone(1, 1, 1));
    }

    private static void errorIsNoughtAtFirst() {
        FloodStones x = new FloodStones();
        x.stone(0, 0, 1);
        x.years(5);
        x.stone(0, 0, 1);
        due(2, () -> x.stoneOf(0, 3));
        due(0, () -> x.stoneOf(1, 3));
        x.years(3);
        due(3, () -> x.stoneOf(0, 3));
        due(1, () -> x.stoneOf(1, 3));
    }

    private static void errorIsNineAtMost() {
        FloodStones x = new FloodStones();
        x.stone(0, 0, 1);
        x.years(25);
        due(8, () -> x.stoneOf(0, 3));
        x.years(1);
        due(9, () -> x.stoneOf(0, 3));
        x.years(3);
        due(9, () -> x.stoneOf(0, 3));
        x.years(60);
        due(9, () -> x.stoneOf(0, 3));
        due(9, () -> x.check(0));
        x.years(3);
        due(1, () -> x.stoneOf(0, 3));
    }

    /** A stone with six marks for the floods 0 to 5, and a flood 6 that could be marked but for these. */
    private static FloodStones fullStone() {
        FloodStones x = new FloodStones();
        x.stone(0, 0, 1);
        x.stone(0, 0, 1);
        x.chisel();
        for (int flood = 0; flood < 7; flood++) {
            x.flood(flood, 30 + flood, 0);
        }
        for (int flood = 0; flood < 6; flood++) {
            x.cut(0, flood, 0);
        }
        return x;
    }

    private static void marksAreSixOnAStoneAtMost() {
        dueRefusal(TermsTest::fullStone, 2, 6, x -> x.cut(0, 6, 0));
        FloodStones x = fullStone();
        due(6, () -> x.stoneOf(0, 4));
        due(36, () -> x.cut(1, 6, 0));
        due(33, () -> x.efface(0, 3));
        due(36, () -> x.cut(0, 6, 0));
        dueRefusal(x, 2, 6, () -> x.cut(0, 3, 0));
        due(6, () -> x.stoneOf(0, 4));
        FloodStones y = fullStone();
        for (int flood = 0; flood < 6; flood++) {
            int number = flood;
            due(30 + number, () -> y.cut(1, number, 0));
        }
        dueRefusal(y, 2, 6, () -> y.cut(1, 6, 0));
        due(12, () -> y.account(5));
        // the mark for 5 on stone 1, cut last, is the least deep one
        due(0, () -> y.years(20));
        due(1, () -> y.years(5));
        due(5, () -> y.stoneOf(1, 4));
        y.sharpen(0);
        y.check(1);
        due(36, () -> y.cut(1, 6, 0));
        dueRefusal(y, 2, 6, () -> y.cut(1, 5, 0));
    }

    // Floods

    private static void floodsHaveRanges() {
        for (int year = 0; year <= 100; year++) {
            int number = year;
            FloodStones x = new FloodStones();
            due(0, () -> x.flood(number, 1, 0));
            due(number, () -> x.floodOf(0, 0));
            due(0, () -> x.floodIn(number));
        }
        for (int crest = 1; crest <= 99; crest++) {
            int number = crest;
            FloodStones x = new FloodStones();
            due(0, () -> x.flood(0, number, 0));
            due(number, () -> x.floodOf(0, 1));
        }
        for (int witnesses = 0; witnesses <= 99; witnesses++) {
            int number = witnesses;
            FloodStones x = new FloodStones();
            due(0, () -> x.flood(0, 1, number));
            due(number, () -> x.floodOf(0, 2));
        }
        for (int out : beyond(0, 100)) {
            dueRefusal(Checks::empty, 1, 0, x -> x.flood(out, 1, 0));
        }
        for (int out : beyond(1, 99)) {
            dueRefusal(Checks::empty, 1, 0, x -> x.flood(0, out, 0));
        }
        for (int out : beyond(0, 99)) {
            dueRefusal(Checks::empty, 1, 0, x -> x.flood(0, 1, out));
        }
    }

    private static void floodsAreUpToThePresentYear() {
        FloodStones x = new FloodStones();
        dueRefusal(x, 1, 0, () -> x.flood(101, 1, 0));
        x.years(1);
        dueRefusal(x, 1, 0, () -> x.flood(102, 1, 0));
        due(0, () -> x.flood(101, 1, 0));
        due(1, () -> x.flood(100, 1, 0));
        x.years(60);
        dueRefusal(x, 1, 0, () -> x.flood(162, 1, 0));
        due(2, () -> x.flood(161, 1, 0));
        x.undo();
        x.undo();
        dueRefusal(x, 1, 0, () -> x.flood(161, 1, 0));
        dueRefusal(x, 4, 0, () -> x.flood(101, 1, 0));
        dueRefusal(x, 1, 0, () -> x.flood(102, 1, 0));
    }

    private static void floodsAreTwelveAtMost() {
        FloodStones x = new FloodStones();
        for (int flood = 0; flood < 12; flood++) {
            int number = flood;
            due(number, () -> x.account(2));
            dueThrow(OUT_OF_BOUNDS, () -> x.floodOf(number, 0));
            due(number, () -> x.flood(100 - 3 * number, 99 - number, 90 - number));
        }
        dueRefusal(x, 2, 12, () -> x.flood(1, 1, 1));
        due(12, () -> x.account(2));
        for (int flood = 0; flood < 12; flood++) {
            int number = flood;
            due(100 - 3 * number, () -> x.floodOf(number, 0));
            due(99 - number, () -> x.floodOf(number, 1));
            due(90 - number, () -> x.floodOf(number, 2));
            due(number, () -> x.floodIn(100 - 3 * number));
        }
        dueRefusal(Checks::full, 2, 12, y -> y.flood(1, 1, 0));
        x.undo();
        due(11, () -> x.flood(1, 1, 1));
    }

    /** At a stone where 40 is lost, from the lowest crest to the highest one. */
    private static void floodsReachAStoneFromTheLevelOneOn() {
        for (int crest = 1; crest <= 99; crest++) {
            FloodStones x = new FloodStones();
            x.stone(50, 30, 1);
            x.flood(7, crest, 0);
            x.chisel();
            int level = crest - 40;
            due(level, () -> x.level(0, 0));
            due(level, () -> x.reads(0, 0));
            if (crest < 41) {
                dueRefusal(x, 6, 41 - crest, () -> x.cut(0, 0, 0));
            } else {
                due(level, () -> x.cut(0, 0, 0));
            }
        }
    }

    // Epochs

    private static void epochsHaveRanges() {
        for (int year : new int[] {0, 1, 99, 100, 101, 998, 999}) {
            FloodStones x = new FloodStones();
            due(1, () -> x.epoch(year, 4));
            due(4, () -> x.shift(year));
        }
        for (int shift = -9; shift <= 9; shift++) {
            int number = shift;
            FloodStones x = new FloodStones();
            due(1, () -> x.epoch(30, number));
            due(number, () -> x.shift(30));
        }
        for (int out : beyond(0, 999)) {
            dueRefusal(Checks::empty, 1, 0, x -> x.epoch(out, 0));
        }
        for (int out : beyond(-9, 9)) {
            dueRefusal(Checks::empty, 1, 0, x -> x.epoch(0, out));
        }
    }

    private static void epochsAreFourAtMost() {
        FloodStones x = new FloodStones();
        for (int epoch = 0; epoch < 4; epoch++) {
            int number = epoch;
            due(number, () -> x.account(3));
            due(number + 1, () -> x.epoch(10 * number, number + 1));
        }
        dueRefusal(x, 2, 4, () -> x.epoch(5, 1));
        dueRefusal(x, 2, 4, () -> x.epoch(40, 1));
        dueRefusal(x, 2, 4, () -> x.epoch(999, 1));
        for (int epoch = 0; epoch < 4; epoch++) {
            int number = epoch;
            due(4, () -> x.epoch(10 * number, -number));
            due(-number, () -> x.shift(10 * number + 9));
        }
        due(4, () -> x.account(3));
        dueRefusal(Checks::full, 2, 4, y -> y.epoch(105, 0));
        dueRefusal(Checks::full, 2, 4, y -> y.epoch(0, 0));
    }

    private static void epochInPlaceIsNeverOneTooMany() {
        for (int told = 1; told <= 4; told++) {
            FloodStones x = new FloodStones();
            for (int epoch = 1; epoch <= told; epoch++) {
                x.epoch(100 * epoch, epoch);
            }
            for (int epoch = 1; epoch <= told; epoch++) {
                int year = 100 * epoch;
                int count = told;
                due(count, () -> x.epoch(year, 9));
                due(9, () -> x.shift(year));
            }
        }
    }

    private static void shiftIsOfTheLatestEpochInAnyOrder() {
        int[] years = {10, 200, 201, 999};
        int[] shifts = {3, -4, 5, -6};
        for (int order = 0; order < 256; order++) {
            int[] turn = {order & 3, order >> 2 & 3, order >> 4 & 3, order >> 6};
            if ((1 << turn[0] | 1 << turn[1] | 1 << turn[2] | 1 << turn[3]) != 15) {
                continue;
            }
            FloodStones x = new FloodStones();
            for (int epoch : turn) {
                x.epoch(years[epoch], shifts[epoch]);
            }
            int[][] want = {{0, 0}, {9, 0}, {10, 3}, {11, 3}, {199, 3}, {200, -4}, {201, 5}, {202, 5}, {998, 5},
                {999, -6}};
            for (int[] pair : want) {
                due(pair[1], () -> x.shift(pair[0]));
            }
        }
    }

    private static void shiftIsNoughtWithoutAnEpoch() {
        FloodStones x = new FloodStones();
        due(0, () -> x.shift(0));
        due(0, () -> x.shift(999));
        x.epoch(999, 7);
        due(0, () -> x.shift(998));
        due(7, () -> x.shift(999));
        x.epoch(0, -7);
        due(-7, () -> x.shift(0));
        due(-7, () -> x.shift(998));
    }

    /** The shift of the present year counts, also in a year beyond those that epochs are told for. */
    private static void shiftIsOfThePresentYear() {
        FloodStones x = new FloodStones();
        x.stone(0, 0, 1);
        x.flood(1, 50, 0);
        x.chisel();
        x.epoch(101, 4);
        x.epoch(999, -9);
        due(50, () -> x.reads(0, 0));
        x.years(1);
        due(54, () -> x.reads(0, 0));
        for (int i = 0; i < 14; i++) {
            x.years(60);
        }
        x.years(57);
        x.check(0);
        due(998, () -> x.account(0));
        due(54, () -> x.reads(0, 0));
        x.years(1);
        x.check(0);
        due(41, () -> x.reads(0, 0));
        x.years(1);
        due(1000, () -> x.account(0));
        due(41, () -> x.reads(0, 0));
        due(41, () -> x.cut(0, 0, 0));
        due(50, () -> x.markOf(0, 0, 3));
        due(1, () -> x.flood(1000, 60, 0));
        dueRefusal(x, 1, 0, () -> x.flood(1001, 60, 0));
        due(51, () -> x.cut(0, 1, 0));
        dueLine(x, 0, "0: 41=1 51=1000");
    }

    // Chisels

    private static void chiselsAreThreeAtMost() {
        FloodStones x = new FloodStones();
        for (int chisel = 0; chisel < 3; chisel++) {
            int number = chisel;
            due(number, () -> x.account(4));
            dueThrow(OUT_OF_BOUNDS, () -> x.edge(number));
            due(number, x::chisel);
            due(20, () -> x.edge(number));
        }
        dueRefusal(x, 2, 3, x::chisel);
        due(3, () -> x.account(4));
        dueRefusal(Checks::full, 2, 3, FloodStones::chisel);
    }

    /** From an edge of 20 on stones of one hardness until it is less than that. */
    private static void edgeBecomesLessByTheHardness() {
        int[] left = {0, 0, 0, 2, 0, 0};
        for (int hardness = 1; hardness <= 5; hardness++) {
            FloodStones x = new FloodStones();
            for (int stone = 0; stone < 6; stone++) {
                x.stone(0, 0, hardness);
            }
            for (int flood = 0; flood < 12; flood++) {
                x.flood(flood, 30 + flood, 0);
            }
            x.chisel();
            x.chisel();
            int cuts = 0;
            for (int edge = 20; edge >= hardness; edge -= hardness) {
                int stone = cuts / 6;
                int flood = cuts % 6;
                due(30 + flood, () -> x.cut(stone, flood, 0));
                int depth = (edge - edge % 2) / 2 + 1;
                due(depth, () -> x.markOf(stone, flood, 1));
                int less = edge - hardness;
                due(less, () -> x.edge(0));
                cuts++;
            }
            int rest = left[hardness];
            dueRefusal(x, 8, rest, () -> x.cut(5, 6, 0));
            due(20, () -> x.edge(1));
            due(36, () -> x.cut(5, 6, 1));
        }
    }

    private static void chiselIsTooBluntBelowTheHardness() {
        FloodStones x = new FloodStones();
        x.stone(0, 0, 4);
        x.stone(0, 0, 5);
        x.chisel();
        for (int flood = 0; flood < 6; flood++) {
            x.flood(flood, 30 + flood, 0);
        }
        for (int flood = 0; flood < 4; flood++) {
            x.cut(0, flood, 0);
        }
        dueRefusal(x, 8, 4, () -> x.cut(1, 4, 0));
        due(34, () -> x.cut(0, 4, 0));
        due(0, () -> x.edge(0));
        dueRefusal(x, 8, 0, () -> x.cut(0, 5, 0));
        due(0, () -> x.sharpen(0));
        due(35, () -> x.cut(1, 5, 0));
        due(15, () -> x.edge(0));
    }

    // Marks

    /** One stone, where nothing is lost, floods with the crests, and a chisel. */
    private static FloodStones withCrests(int... crests) {
        FloodStones x = new FloodStones();
        x.stone(0, 0, 1);
        for (int flood = 0; flood < crests.length; flood++) {
            x.flood(flood, crests[flood], 0);
        }
        x.chisel();
        return x;
    }

    private static void heightIsFromNoughtToNinetyNine() {
        dueRefusal(() -> shifted(99, 1), 7, 100, x -> x.cut(0, 0, 0));
        dueRefusal(() -> shifted(99, 9), 7, 108, x -> x.cut(0, 0, 0));
        dueRefusal(() -> shifted(1, -2), 7, -1, x -> x.cut(0, 0, 0));
        dueRefusal(() -> shifted(1, -9), 7, -8, x -> x.cut(0, 0, 0));
        due(99, () -> shifted(99, 0).cut(0, 0, 0));
        due(99, () -> shifted(90, 9).cut(0, 0, 0));
        due(0, () -> shifted(1, -1).cut(0, 0, 0));
        due(0, () -> shifted(9, -9).cut(0, 0, 0));
        FloodStones x = withCrests(99, 98);
        x.years(2);
        dueRefusal(x, 7, 100, () -> x.cut(0, 0, 0));
        due(99, () -> x.cut(0, 1, 0));
        x.check(0);
        dueRefusal(x, 9, 1, () -> x.cut(0, 0, 0));
    }

    private static FloodStones shifted(int crest, int shift) {
        FloodStones x = withCrests(crest);
        x.epoch(100, shift);
        return x;
    }

    /** The level, the error and the shift together: 50 - 10 - 30, 9, and 9 or -9. */
    private static void heightIsWhatTheStaffReads() {
        FloodStones x = new FloodStones();
        x.stone(50, 30, 1);
        x.stone(50, 30, 1);
        x.flood(3, 50, 0);
        x.chisel();
        x.epoch(130, 9);
        x.years(30);
        due(28, () -> x.reads(0, 0));
        due(28, () -> x.cut(0, 0, 0));
        x.epoch(130, -9);
        due(10, () -> x.reads(1, 0));
        due(10, () -> x.cut(1, 0, 0));
        due(10, () -> x.level(1, 0));
        due(28, () -> x.markOf(0, 0, 0));
        due(37, () -> x.markOf(0, 0, 3));
        due(130, () -> x.markOf(0, 0, 2));
    }

    private static void oneMarkForAFloodOnAStone() {
        FloodStones x = withCrests(40, 41);
        x.stone(0, 3, 1);
        due(40, () -> x.cut(0, 0, 0));
        x.epoch(100, 5);
        dueRefusal(x, 5, 40, () -> x.cut(0, 0, 0));
        due(42, () -> x.cut(1, 0, 0));
        due(46, () -> x.cut(0, 1, 0));
        due(40, () -> x.efface(0, 0));
        due(45, () -> x.cut(0, 0, 0));
        dueRefusal(x, 5, 45, () -> x.cut(0, 0, 0));
        dueRefusal(x, 5, 42, () -> x.cut(1, 0, 0));
    }

    private static void oneMarkAtAHeight() {
        FloodStones x = withCrests(40, 45, 40, 44);
        x.stone(0, 0, 1);
        due(40, () -> x.cut(0, 0, 0));
        due(45, () -> x.cut(0, 1, 0));
        dueRefusal(x, 9, 0, () -> x.cut(0, 2, 0));
        due(40, () -> x.cut(1, 2, 0));
        x.epoch(100, 1);
        due(41, () -> x.cut(0, 2, 0));
        dueRefusal(x, 9, 1, () -> x.cut(0, 3, 0));
        x.efface(0, 1);
        due(45, () -> x.cut(0, 3, 0));
    }

    /** The shift of the year in which a mark was cut counts as it is told now, not as it was. */
    private static void trueHeightIsByTheShiftAsItIsToldNow() {
        FloodStones x = withCrests(40);
        x.epoch(100, 9);
        due(49, () -> x.cut(0, 0, 0));
        due(40, () -> x.markOf(0, 0, 3));
        x.epoch(100, -9);
        due(58, () -> x.markOf(0, 0, 3));
        x.epoch(101, 5);
        due(58, () -> x.markOf(0, 0, 3));
        x.years(5);
        due(58, () -> x.markOf(0, 0, 3));
        x.epoch(99, 1);
        due(58, () -> x.markOf(0, 0, 3));
        due(49, () -> x.markOf(0, 0, 0));
        FloodStones y = withCrests(1);
        y.epoch(100, -1);
        due(0, () -> y.cut(0, 0, 0));
        y.epoch(100, 9);
        due(-9, () -> y.markOf(0, 0, 3));
    }

    // Doubts

    /**
     * Two marks, for floods of which the second one's crest is greater by moreCrest, and whose true height is then
     * greater by moreHeight. Their heights are 40 and 45 + moreCrest.
     */
    private static FloodStones pair(int moreCrest, int moreHeight, boolean isSwapped) {
        FloodStones x = new FloodStones();
        x.stone(0, 0, 1);
        x.chisel();
        int first = isSwapped ? 1 : 0;
        x.flood(10, isSwapped ? 40 + moreCrest : 40, 1);
        x.flood(20, isSwapped ? 40 : 40 + moreCrest, 1);
        x.cut(0, first, 0);
        x.years(1);
        x.epoch(101, 5);
        x.cut(0, 1 - first, 0);
        x.epoch(101, 5 + moreCrest - moreHeight);
        return x;
    }

    private static void duePair(int moreCrest, int moreHeight, boolean isInDoubt) {
        int doubts = isInDoubt ? 1 : 0;
        for (int swapped = 0; swapped < 2; swapped++) {
            FloodStones x = pair(moreCrest, moreHeight, swapped == 1);
            int first = swapped;
            due(moreHeight, () -> x.markOf(0, 1 - first, 3) - x.markOf(0, first, 3));
            due(doubts, () -> x.stoneOf(0, 5));
            due(doubts, () -> x.floodOf(0, 4));
            due(doubts, () -> x.floodOf(1, 4));
            due(10 - 5 * doubts, () -> x.floodOf(0, 5));
            due(1 - doubts, () -> x.rises(0) ? 1 : 0);
            due(doubts, x::doubts);
            due(doubts, x::doubtsAgain);
            due(doubts, () -> x.account(9));
        }
    }

    private static void pairsAreInDoubt() {
        duePair(1, 1, false);
        duePair(1, 0, true);
        duePair(1, -1, true);
        duePair(1, 9, false);
        duePair(-1, -1, false);
        duePair(-1, 0, true);
        duePair(-1, 1, true);
        duePair(-1, -5, false);
        duePair(0, 0, false);
        duePair(0, 1, true);
        duePair(0, -1, true);
        duePair(4, 1, false);
        duePair(4, 0, true);
        duePair(-4, -1, false);
        duePair(-4, 0, true);
    }

    /** Floods of one crest, cut under other shifts each, so that each two marks on a stone are in doubt. */
    private static FloodStones allInDoubt(int stones, int marks) {
        FloodStones x = new FloodStones();
        for (int flood = 0; flood < 12; flood++) {
            x.flood(flood, 40, flood);
        }
        x.chisel();
        x.chisel();
        x.chisel();
        for (int stone = 0; stone < stones; stone++) {
            x.stone(0, 0, 1);
            for (int flood = 0; flood < marks; flood++) {
                x.epoch(100, flood);
                x.cut(stone, flood, stone / 2);
            }
        }
        return x;
    }

    private static void doubtsAreThePairs() {
        int pairs = 0;
        for (int marks = 0; marks <= 6; marks++) {
            FloodStones x = allInDoubt(1, marks);
            pairs += marks > 0 ? marks - 1 : 0;
            int due = pairs;
            int others = marks - 1;
            due(due, () -> x.stoneOf(0, 5));
            due(due, x::doubts);
            due(due, x::doubtsAgain);
            for (int flood = 0; flood < marks; flood++) {
                int asked = flood;
                due(others, () -> x.floodOf(asked, 4));
            }
            due(0, () -> x.floodOf(6, 4));
        }
        FloodStones full = allInDoubt(6, 6);
        due(90, full::doubts);
        due(90, full::doubtsAgain);
        due(6, () -> full.account(9));
        due(36, () -> full.account(5));
        for (int flood = 0; flood < 6; flood++) {
            int asked = flood;
            due(15, () -> full.stoneOf(asked, 5));
            due(30, () -> full.floodOf(asked, 4));
        }
    }

    /** With 5, 10, 25 or 30 doubts of a flood, 10 for each witness less 5 for each doubt, but at least 0. */
    private static void creditIsNeverBelowNought() {
        FloodStones x = allInDoubt(2, 6);
        int[] credits = {0, 0, 0, 0, 0, 0, 60, 70, 80, 90, 100, 110};
        for (int flood = 0; flood < 12; flood++) {
            int asked = flood;
            due(credits[asked], () -> x.floodOf(asked, 5));
        }
        due(6, () -> x.witness(5, 1));
        due(10, () -> x.floodOf(5, 5));
        due(5, () -> x.witness(4, 1));
        due(0, () -> x.floodOf(4, 5));
        FloodStones y = allInDoubt(1, 6);
        int[] others = {0, 0, 0, 5, 15, 25};
        for (int flood = 0; flood < 6; flood++) {
            int asked = flood;
            due(others[asked], () -> y.floodOf(asked, 5));
        }
        FloodStones z = new FloodStones();
        z.flood(0, 1, 99);
        z.flood(1, 1, 0);
        due(990, () -> z.floodOf(0, 5));
        due(0, () -> z.floodOf(1, 5));
    }

    /** Marks on two stones are no pair, and a mark that is gone is in no doubt. */
    private static void doubtsAreOfMarksOnOneStone() {
        FloodStones x = new FloodStones();
        x.stone(0, 0, 1);
        x.stone(0, 30, 1);
        x.chisel();
        x.flood(0, 40, 1);
        x.flood(1, 41, 1);
        due(40, () -> x.cut(0, 0, 0));
        due(11, () -> x.cut(1, 1, 0));
        due(0, x::doubts);
        due(0, x::doubtsAgain);
        due(10, () -> x.floodOf(0, 5));
        x.epoch(101, -5);
        x.years(1);
        due(36, () -> x.cut(0, 1, 0));
        due(0, x::doubts);
        x.epoch(101, 0);
        due(1, x::doubts);
        due(1, x::doubtsAgain);
        due(1, () -> x.account(9));
        x.efface(0, 0);
        due(0, x::doubts);
        due(0, x::doubtsAgain);
        due(0, () -> x.account(9));
        due(10, () -> x.floodOf(1, 5));
    }

    // A year goes by

    private static void errorsGrowWithEachThirdYear() {
        FloodStones x = new FloodStones();
        x.stone(0, 0, 1);
        int[] want = {0, 0, 1, 1, 1, 2, 2, 2, 3, 3, 3, 4, 4, 4, 5, 5, 5, 6, 6, 6, 7, 7, 7, 8, 8, 8, 9, 9, 9, 9, 9, 9};
        for (int year = 100; year < 100 + want.length; year++) {
            int error = want[year - 100];
            int now = year;
            due(now, () -> x.account(0));
            due(error, () -> x.stoneOf(0, 3));
            int later = now - 100;
            FloodStones fresh = new FloodStones();
            fresh.stone(0, 0, 1);
            due(error, () -> fresh.errorIn(0, later));
            x.years(1);
        }
    }

    /** What is foretold comes true, from years with each rest and from errors of each kind. */
    private static void errorsAreForetold() {
        for (int first = 0; first < 6; first++) {
            for (int late = 0; late <= 60; late++) {
                FloodStones x = new FloodStones();
                x.stone(0, 0, 1);
                x.stone(0, 0, 1);
                int start = 6 * first + first;
                if (start > 0) {
                    x.years(start);
                }
                x.check(1);
                int later = late;
                int error = x.errorIn(0, late);
                int other = x.errorIn(1, late);
                if (late > 0) {
                    x.years(later);
                }
                due(error, () -> x.stoneOf(0, 3));
                due(other, () -> x.stoneOf(1, 3));
            }
        }
    }

    /** One stone and marks for the floods 0 to 4, of the depths 11, 10, 10, 1 and 9, cut in a year from 100 on. */
    private static FloodStones depths(int year) {
        FloodStones x = new FloodStones();
        for (int stone = 0; stone < 5; stone++) {
            x.stone(0, 0, 1 + stone);
        }
        for (int flood = 0; flood < 5; flood++) {
            x.flood(flood, 40 + 2 * flood, 0);
        }
        x.chisel();
        x.chisel();
        if (year > 100) {
            x.years(year - 100);
        }
        x.cut(0, 0, 0);
        x.cut(0, 1, 0);
        x.cut(0, 2, 0);
        x.cut(4, 0, 1);
        x.cut(4, 1, 1);
        x.cut(4, 2, 1);
        x.cut(3, 0, 1);
        x.cut(0, 3, 1);
        x.sharpen(1);
        x.cut(3, 4, 1);
        x.cut(0, 4, 1);
        return x;
    }

    private static void depthsBecomeLessWithEachFifthYear() {
        int[] want = {11, 10, 10, 1, 9};
        for (int year = 100; year < 110; year++) {
            FloodStones x = depths(year);
            int rest = year % 5;
            for (int flood = 0; flood < 5; flood++) {
                int asked = flood;
                due(want[asked], () -> x.markOf(0, asked, 1));
                due(5 * want[asked] - rest, () -> x.markOf(0, asked, 4));
            }
            for (int passed = 1; passed <= 5 - rest; passed++) {
                boolean isLast = passed == 5 - rest;
                due(isLast ? 1 : 0, () -> x.years(1));
                due(isLast ? 10 : 11, () -> x.markOf(0, 0, 1));
                due(isLast ? 8 : 9, () -> x.markOf(0, 4, 1));
            }
            dueThrow(NO_ELEMENT, () -> x.markOf(0, 3, 1));
            due(4, () -> x.stoneOf(0, 4));
            due(0, () -> x.floodOf(3, 3));
            due(1, () -> x.account(8));
            due(10, () -> x.account(6));
            due(9, () -> x.account(5));
            due(50, () -> x.markOf(0, 0, 4));
        }
    }

    /** A mark is there in the last year before it is gone, and not in the next, for each depth and each year. */
    private static void marksAreGoneWhenItIsForetold() {
        for (int year = 100; year < 105; year++) {
            for (int flood = 0; flood < 5; flood++) {
                int asked = flood;
                int left = depths(year).markOf(0, asked, 4);
                FloodStones x = depths(year);
                if (left > 1) {
                    x.years(left - 1);
                }
                due(1, () -> x.markOf(0, asked, 1));
                due(1, () -> x.markOf(0, asked, 4));
                x.years(1);
                dueThrow(NO_ELEMENT, () -> x.markOf(0, asked, 4));
                dueRefusal(x, 10, asked, () -> x.efface(0, asked));
            }
        }
    }

    /** 105 is divisible by 3 and by 5: both happen; a year that is divisible by neither alters nothing. */
    private static void yearsAlterNothingElse() {
        FloodStones x = depths(100);
        x.years(4);
        due(1, () -> x.stoneOf(0, 3));
        due(11, () -> x.markOf(0, 0, 1));
        due(1, () -> x.years(1));
        due(2, () -> x.stoneOf(0, 3));
        due(10, () -> x.markOf(0, 0, 1));
        due(40, () -> x.markOf(0, 0, 0));
        due(100, () -> x.markOf(0, 0, 2));
        due(17, () -> x.edge(0));
        due(15, () -> x.edge(1));
        due(5, () -> x.account(2));
        due(0, () -> x.floodOf(0, 2));
        for (Part part : new Part[] {Part.STONES, Part.MARKS, Part.TRUTHS, Part.FLOODS}) {
            String want = told(depthsAfter(1, 60), part);
            due(1, () -> told(depthsAfter(60, 1), part).equals(want) ? 1 : 0);
            due(1, () -> told(depthsAfter(20, 3), part).equals(want) ? 1 : 0);
        }
        due(160, () -> depthsAfter(1, 60).account(0));
        due(160, () -> depthsAfter(60, 1).account(0));
    }

    private static FloodStones depthsAfter(int calls, int years) {
        FloodStones x = depths(100);
        for (int i = 0; i < calls; i++) {
            x.years(years);
        }
        return x;
    }

    /** In the place of a mark that is gone another one can be cut, at its height and for its flood. */
    private static void marksThatAreGoneLeaveTheirPlace() {
        FloodStones x = depths(100);
        due(46, () -> x.markOf(0, 3, 0));
        due(1, () -> x.years(5));
        x.check(0);
        due(46, () -> x.cut(0, 3, 0));
        due(105, () -> x.markOf(0, 3, 2));
        due(9, () -> x.markOf(0, 3, 1));
        due(11, () -> x.account(6));
        due(1, () -> x.account(8));
    }

    private static void yearsTellHowManyMarksAreGone() {
        due(0, () -> depths(100).years(4));
        due(1, () -> depths(100).years(5));
        // the depths are 11, 10, 10, 1, 9 on stone 0, 11, 8, 6 on stone 4, and 3, 11 on stone 3
        int[] gone = {0, 1, 1, 2, 2, 2, 3, 3, 4, 5, 7, 10, 10};
        for (int fives = 1; fives < gone.length; fives++) {
            int years = 5 * fives;
            int due = gone[fives];
            due(due, () -> depths(100).years(years));
            FloodStones x = depths(100);
            x.years(years);
            due(due, () -> x.account(8));
            due(10 - due, () -> x.account(5));
            due(0, () -> x.account(7));
        }
    }

    // Details

    private static void yearsWithoutAFloodHaveNone() {
        FloodStones x = new FloodStones();
        for (int year : new int[] {0, -1, 1, 100, 101, Integer.MIN_VALUE, Integer.MAX_VALUE}) {
            dueThrow(NO_ELEMENT, () -> x.floodIn(year));
            dueThrow(NO_ELEMENT, () -> x.before(year));
        }
        x.flood(1, 50, 0);
        dueThrow(NO_ELEMENT, () -> x.floodIn(0));
        dueThrow(NO_ELEMENT, () -> x.floodIn(-1));
        dueThrow(NO_ELEMENT, () -> x.floodIn(2));
        due(0, () -> x.floodIn(1));
    }

    private static void riversAreOnTheirOwn() {
        FloodStones x = full();
        FloodStones y = new FloodStones();
        due(0, () -> y.stone(1, 2, 3));
        y.years(1);
        due(115, () -> x.account(0));
        due(0, () -> x.stoneOf(0, 0));
        due(101, () -> y.account(0));
        due(0, () -> y.account(11));
        dueThrow(NO_ELEMENT, () -> y.reason(0));
        due(-1, y::faultPosition);
        dueThrow(BAD_STATE, y::restore);
        dueThrow(OUT_OF_BOUNDS, () -> y.character(0));
    }

    public static void main(String[] args) {
        fullRiver();
        fifthsAreRoundedDown();
        yearIsAHundredAtFirst();
        stonesHaveRanges();
        stonesAreSixAtMost();
        errorIsNoughtAtFirst();
        errorIsNineAtMost();
        marksAreSixOnAStoneAtMost();
        floodsHaveRanges();
        floodsAreUpToThePresentYear();
        floodsAreTwelveAtMost();
        floodsReachAStoneFromTheLevelOneOn();
        epochsHaveRanges();
        epochsAreFourAtMost();
        epochInPlaceIsNeverOneTooMany();
        shiftIsOfTheLatestEpochInAnyOrder();
        shiftIsNoughtWithoutAnEpoch();
        shiftIsOfThePresentYear();
        chiselsAreThreeAtMost();
        edgeBecomesLessByTheHardness();
        chiselIsTooBluntBelowTheHardness();
        heightIsFromNoughtToNinetyNine();
        heightIsWhatTheStaffReads();
        oneMarkForAFloodOnAStone();
        oneMarkAtAHeight();
        trueHeightIsByTheShiftAsItIsToldNow();
        pairsAreInDoubt();
        doubtsAreThePairs();
        creditIsNeverBelowNought();
        doubtsAreOfMarksOnOneStone();
        errorsGrowWithEachThirdYear();
        errorsAreForetold();
        depthsBecomeLessWithEachFifthYear();
        marksAreGoneWhenItIsForetold();
        yearsAlterNothingElse();
        marksThatAreGoneLeaveTheirPlace();
        yearsTellHowManyMarksAreGone();
        yearsWithoutAFloodHaveNone();
        riversAreOnTheirOwn();
        report();
    }
}
