/** What a river is asked: each exception in the order of its rows, the edges, and that asking changes nothing. */
public final class AsksTest extends Checks {
    private static final int LEAST = Integer.MIN_VALUE;
    private static final int MOST = Integer.MAX_VALUE;
    /** What is not there in any river. */
    private static final int[] NOWHERE = {-1, 12, 99, LEAST, LEAST + 1, MOST - 1, MOST};
    /** Numbers whose product with a number of things wraps round to a small one. */
    private static final int[] WRAPPED = {357913942, 715827883, 1431655766, 178956971, -357913941, -715827882};

    private interface Number {
        double of(FloodStones x, int number);
    }

    /** There is nothing at these numbers, whether the river is empty or full. */
    private static void dueNowhere(Class<?> want, int count, Number asked) {
        dueThrowAlone(want, Checks::empty, x -> asked.of(x, 0));
        dueThrowAlone(want, Checks::full, x -> asked.of(x, count));
        for (Making making : new Making[] {Checks::empty, Checks::full}) {
            for (int number : NOWHERE) {
                dueThrowAlone(want, making, x -> asked.of(x, number));
            }
            FloodStones x = making.river();
            for (int number : WRAPPED) {
                dueThrow(want, () -> asked.of(x, number));
            }
        }
    }

    private static void dueUnasked(Making making, int least, int most, Number asked) {
        for (int what : beyond(least, most)) {
            dueThrowAlone(BAD_ARGUMENT, making, x -> asked.of(x, what));
        }
    }

    /** The answers to 'what' from 0 on. */
    private static void dueRow(FloodStones x, Number asked, int... want) {
        for (int what = 0; what < want.length; what++) {
            int number = what;
            due(want[number], () -> asked.of(x, number));
        }
    }

    private static void stoneOf() {
        dueNowhere(OUT_OF_BOUNDS, 6, (x, stone) -> x.stoneOf(stone, 0));
        dueNowhere(OUT_OF_BOUNDS, 6, (x, stone) -> x.stoneOf(stone, 5));
        dueUnasked(Checks::full, 0, 5, (x, what) -> x.stoneOf(5, what));
        // the stone ahead of what
        dueThrow(OUT_OF_BOUNDS, () -> full().stoneOf(6, 6));
        dueThrow(OUT_OF_BOUNDS, () -> full().stoneOf(-1, -1));
        dueThrow(OUT_OF_BOUNDS, () -> empty().stoneOf(0, 6));
        FloodStones x = full();
        dueRow(x, (y, what) -> y.stoneOf(0, what), 0, 0, 1, 5, 6, 0);
        dueRow(x, (y, what) -> y.stoneOf(1, what), 50, 30, 5, 5, 2, 0);
        dueRow(x, (y, what) -> y.stoneOf(2, what), 14, 2, 2, 5, 3, 2);
        dueRow(x, (y, what) -> y.stoneOf(3, what), 25, 5, 3, 5, 0, 0);
        dueRow(x, (y, what) -> y.stoneOf(4, what), 4, 0, 4, 5, 0, 0);
        dueRow(x, (y, what) -> y.stoneOf(5, what), 5, 1, 1, 5, 0, 0);
    }

    private static void floodOf() {
        dueNowhere(OUT_OF_BOUNDS, 12, (x, flood) -> x.floodOf(flood, 0));
        dueNowhere(OUT_OF_BOUNDS, 12, (x, flood) -> x.floodOf(flood, 5));
        dueUnasked(Checks::full, 0, 5, (x, what) -> x.floodOf(11, what));
        dueThrow(OUT_OF_BOUNDS, () -> full().floodOf(12, 6));
        dueThrow(OUT_OF_BOUNDS, () -> full().floodOf(-1, -1));
        dueThrow(OUT_OF_BOUNDS, () -> empty().floodOf(0, 6));
        FloodStones x = full();
        dueRow(x, (y, what) -> y.floodOf(0, what), 90, 20, 0, 2, 1, 0);
        dueRow(x, (y, what) -> y.floodOf(1, what), 83, 26, 9, 2, 1, 85);
        dueRow(x, (y, what) -> y.floodOf(2, what), 76, 32, 18, 2, 2, 170);
        dueRow(x, (y, what) -> y.floodOf(5, what), 55, 50, 45, 2, 0, 450);
        dueRow(x, (y, what) -> y.floodOf(6, what), 48, 56, 54, 1, 0, 540);
        dueRow(x, (y, what) -> y.floodOf(7, what), 41, 62, 63, 0, 0, 630);
        dueRow(x, (y, what) -> y.floodOf(11, what), 13, 86, 99, 0, 0, 990);
    }

    private static void floodIn() {
        for (int year : new int[] {-1, 0, 12, 14, 89, 91, 100, 115, 116, LEAST, MOST}) {
            dueThrowAlone(NO_ELEMENT, Checks::full, x -> x.floodIn(year));
            dueThrowAlone(NO_ELEMENT, Checks::empty, x -> x.floodIn(year));
        }
        FloodStones x = full();
        for (int flood = 0; flood < 12; flood++) {
            int number = flood;
            due(number, () -> x.floodIn(90 - 7 * number));
        }
        FloodStones y = new FloodStones();
        y.flood(100, 1, 0);
        y.flood(0, 1, 0);
        due(0, () -> y.floodIn(100));
        due(1, () -> y.floodIn(0));
        dueThrow(NO_ELEMENT, () -> y.floodIn(-1));
        dueThrow(NO_ELEMENT, () -> y.floodIn(1));
        dueThrow(NO_ELEMENT, () -> y.floodIn(99));
        dueThrow(NO_ELEMENT, () -> y.floodIn(101));
    }

    private static void before() {
        for (int year : new int[] {LEAST, -1, 0, 12, 13}) {
            dueThrowAlone(NO_ELEMENT, Checks::full, x -> x.before(year));
        }
        for (int year : new int[] {LEAST, -1, 0, 100, MOST}) {
            dueThrowAlone(NO_ELEMENT, Checks::empty, x -> x.before(year));
        }
        FloodStones x = full();
        due(11, () -> x.before(14));
        due(11, () -> x.before(20));
        due(10, () -> x.before(21));
        due(1, () -> x.before(90));
        due(0, () -> x.before(91));
        due(0, () -> x.before(115));
        due(0, () -> x.before(MOST));
        // told in no order, the year 0 among them
        FloodStones y = new FloodStones();
        y.flood(50, 1, 0);
        y.flood(100, 9, 0);
        y.flood(0, 99, 0);
        y.flood(75, 5, 0);
        int[][] want = {{1, 2}, {50, 2}, {51, 0}, {75, 0}, {76, 3}, {100, 3}, {101, 1}, {MOST, 1}};
        for (int[] pair : want) {
            due(pair[1], () -> y.before(pair[0]));
        }
        dueThrow(NO_ELEMENT, () -> y.before(0));
        dueThrow(NO_ELEMENT, () -> y.before(-1));
    }

    private static void edge() {
        dueNowhere(OUT_OF_BOUNDS, 3, (x, chisel) -> x.edge(chisel));
        dueRow(full(), (x, chisel) -> x.edge(chisel), 14, 14, 0);
    }

    private static void markOf() {
        dueNowhere(OUT_OF_BOUNDS, 6, (x, stone) -> x.markOf(stone, 0, 0));
        dueNowhere(OUT_OF_BOUNDS, 12, (x, flood) -> x.markOf(0, flood, 0));
        dueUnasked(Checks::full, 0, 4, (x, what) -> x.markOf(0, 0, what));
        for (int what = 0; what <= 4; what++) {
            int number = what;
            dueThrowAlone(NO_ELEMENT, Checks::full, x -> x.markOf(0, 6, number));
            dueThrowAlone(NO_ELEMENT, Checks::full, x -> x.markOf(1, 4, number));
            dueThrowAlone(NO_ELEMENT, Checks::full, x -> x.markOf(1, 7, number));
            dueThrowAlone(NO_ELEMENT, Checks::full, x -> x.markOf(5, 11, number));
            dueThrow(OUT_OF_BOUNDS, () -> empty().markOf(0, 0, number));
        }
        // the stone and the flood ahead of what, what ahead of the mark
        dueThrow(OUT_OF_BOUNDS, () -> full().markOf(6, 0, 5));
        dueThrow(OUT_OF_BOUNDS, () -> full().markOf(0, 12, -1));
        dueThrow(OUT_OF_BOUNDS, () -> full().markOf(-1, -1, -1));
        dueThrow(BAD_ARGUMENT, () -> full().markOf(0, 6, 5));
        dueThrow(BAD_ARGUMENT, () -> full().markOf(0, 6, -1));
        FloodStones x = full();
        dueRow(x, (y, what) -> y.markOf(0, 0, what), 20, 8, 100, 20, 40);
        dueRow(x, (y, what) -> y.markOf(0, 1, what), 26, 7, 100, 26, 35);
        dueRow(x, (y, what) -> y.markOf(0, 5, what), 50, 5, 100, 50, 25);
        dueRow(x, (y, what) -> y.markOf(1, 5, what), 20, 5, 104, 11, 25);
        dueRow(x, (y, what) -> y.markOf(1, 6, what), 26, 3, 104, 17, 15);
        dueRow(x, (y, what) -> y.markOf(2, 0, what), 19, 8, 103, 17, 40);
        dueRow(x, (y, what) -> y.markOf(2, 1, what), 25, 7, 103, 23, 35);
        dueRow(x, (y, what) -> y.markOf(2, 2, what), 20, 6, 104, 11, 30);
    }

    private static void mark() {
        dueNowhere(OUT_OF_BOUNDS, 6, (x, stone) -> x.mark(stone, 0));
        for (int place : new int[] {-1, 6, 7, 12, LEAST, MOST}) {
            dueThrowAlone(NO_ELEMENT, Checks::full, x -> x.mark(0, place));
        }
        for (int place : new int[] {-1, 3, 4, LEAST, MOST}) {
            dueThrowAlone(NO_ELEMENT, Checks::full, x -> x.mark(2, place));
        }
        dueThrowAlone(NO_ELEMENT, Checks::full, x -> x.mark(5, 0));
        dueThrow(OUT_OF_BOUNDS, () -> full().mark(6, 9));
        dueThrow(OUT_OF_BOUNDS, () -> full().mark(-1, -1));
        FloodStones x = full();
        dueRow(x, (y, place) -> y.mark(0, place), 0, 1, 2, 3, 4, 5);
        dueRow(x, (y, place) -> y.mark(1, place), 5, 6);
        dueRow(x, (y, place) -> y.mark(2, place), 0, 2, 1);
    }

    /** The last of the floods, 11, is marked too, and the order is by the heights as they are cut. */
    private static void markByTheHeights() {
        FloodStones x = full();
        x.efface(0, 0);
        x.efface(0, 3);
        x.check(0);
        x.epoch(104, -9);
        due(77, () -> x.cut(0, 11, 1));
        due(53, () -> x.cut(0, 7, 1));
        dueRow(x, (y, place) -> y.mark(0, place), 1, 2, 4, 5, 7, 11);
        dueThrow(NO_ELEMENT, () -> x.mark(0, 6));
        dueLine(x, 0, "0: 26=83 32=76 44=62 50=55 53=41 77=13");
        x.epoch(100, 9);
        x.epoch(104, 9);
        dueRow(x, (y, place) -> y.mark(0, place), 1, 2, 4, 5, 7, 11);
    }

    private static void levelAndReads() {
        dueNowhere(OUT_OF_BOUNDS, 6, (x, stone) -> x.level(stone, 0));
        dueNowhere(OUT_OF_BOUNDS, 12, (x, flood) -> x.level(0, flood));
        dueNowhere(OUT_OF_BOUNDS, 6, (x, stone) -> x.reads(stone, 0));
        dueNowhere(OUT_OF_BOUNDS, 12, (x, flood) -> x.reads(0, flood));
        FloodStones x = full();
        int[] lost = {0, 40, 4, 10, 0, 2};
        for (int stone = 0; stone < 6; stone++) {
            for (int flood = 0; flood < 12; flood++) {
                int onStone = stone;
                int ofFlood = flood;
                int level = 20 + 6 * flood - lost[stone];
                due(level, () -> x.level(onStone, ofFlood));
                due(level + 5 + 9, () -> x.reads(onStone, ofFlood));
            }
        }
        // the height may be out of range on both sides
        due(100, () -> x.reads(0, 11));
        x.check(1);
        x.epoch(104, -9);
        due(-29, () -> x.reads(1, 0));
        due(-20, () -> x.level(1, 0));
    }

    private static void shift() {
        for (Making making : new Making[] {Checks::empty, Checks::full}) {
            for (int out : beyond(0, 999)) {
                dueThrowAlone(BAD_ARGUMENT, making, x -> x.shift(out));
            }
        }
        due(0, () -> empty().shift(0));
        due(0, () -> empty().shift(999));
        FloodStones x = full();
        int[][] want = {{0, 0}, {49, 0}, {50, -3}, {99, -3}, {100, 0}, {102, 0}, {103, 2}, {104, 9}, {115, 9}, {999, 9}};
        for (int[] pair : want) {
            due(pair[1], () -> x.shift(pair[0]));
        }
    }

    private static void errorIn() {
        dueNowhere(OUT_OF_BOUNDS, 6, (x, stone) -> x.errorIn(stone, 0));
        for (int out : beyond(0, 60)) {
            dueThrowAlone(BAD_ARGUMENT, Checks::full, x -> x.errorIn(5, out));
        }
        dueThrow(OUT_OF_BOUNDS, () -> full().errorIn(6, 61));
        dueThrow(OUT_OF_BOUNDS, () -> full().errorIn(-1, -1));
        dueThrow(OUT_OF_BOUNDS, () -> empty().errorIn(0, 61));
        FloodStones x = full();
        int[][] want = {{0, 5}, {1, 5}, {2, 6}, {4, 6}, {5, 7}, {8, 8}, {10, 8}, {11, 9}, {14, 9}, {59, 9}, {60, 9}};
        for (int[] pair : want) {
            due(pair[1], () -> x.errorIn(5, pair[0]));
        }
        x.check(5);
        due(0, () -> x.errorIn(5, 1));
        due(1, () -> x.errorIn(5, 2));
        due(5, () -> x.errorIn(4, 1));
    }

    private static void rises() {
        dueNowhere(OUT_OF_BOUNDS, 6, (x, stone) -> x.rises(stone) ? 1 : 0);
        dueRow(full(), (x, stone) -> x.rises(stone) ? 1 : 0, 1, 1, 0, 1, 1, 1);
        FloodStones x = full();
        x.efface(2, 2);
        due(1, () -> x.rises(2) ? 1 : 0);
        due(0, x::doubts);
    }

    private static void ranked() {
        for (int rank : new int[] {-1, 12, 13, LEAST, MOST}) {
            dueThrowAlone(NO_ELEMENT, Checks::full, x -> x.ranked(rank));
        }
        for (int rank : new int[] {-1, 0, 1, LEAST, MOST}) {
            dueThrowAlone(NO_ELEMENT, Checks::empty, x -> x.ranked(rank));
        }
        dueRow(full(), (x, rank) -> x.ranked(rank), 11, 10, 9, 8, 7, 6, 5, 4, 3, 2, 1, 0);
        // the floods 0 to 5 with credits 0 as well: by the crest, then by the lesser year
        FloodStones x = new FloodStones();
        x.flood(50, 20, 0);
        x.flood(40, 20, 0);
        x.flood(60, 20, 0);
        x.flood(100, 21, 0);
        x.flood(0, 19, 0);
        x.flood(1, 1, 1);
        x.flood(99, 99, 0);
        dueRow(x, (y, rank) -> y.ranked(rank), 5, 6, 3, 1, 0, 2, 4);
        dueThrow(NO_ELEMENT, () -> x.ranked(7));
        x.flood(41, 20, 1);
        dueRow(x, (y, rank) -> y.ranked(rank), 7, 5, 6, 3, 1, 0, 2, 4);
        FloodStones y = new FloodStones();
        for (int flood = 0; flood < 12; flood++) {
            y.flood(100 - flood, 50, 3);
        }
        dueRow(y, (z, rank) -> z.ranked(rank), 11, 10, 9, 8, 7, 6, 5, 4, 3, 2, 1, 0);
    }

    /** Doubts take from the credit: 15 for three witnesses with three doubts is ahead of 10, and behind 20. */
    private static void rankedByCreditLessDoubts() {
        FloodStones x = new FloodStones();
        x.stone(0, 0, 1);
        x.chisel();
        for (int flood = 0; flood < 4; flood++) {
            x.flood(flood, 40, 3);
            x.epoch(100, flood);
            x.cut(0, flood, 0);
        }
        x.flood(90, 1, 1);
        x.flood(80, 1, 2);
        due(15, () -> x.floodOf(3, 5));
        dueRow(x, (y, rank) -> y.ranked(rank), 5, 0, 1, 2, 3, 4);
        x.efface(0, 1);
        // now 20, 30, 20, 20, 10 and 20
        dueRow(x, (y, rank) -> y.ranked(rank), 1, 0, 2, 3, 5, 4);
    }

    private static void line() {
        dueNowhere(OUT_OF_BOUNDS, 6, (x, stone) -> x.line(stone));
        FloodStones x = full();
        dueLine(x, 3, "3:");
        dueLine(x, 5, "5:");
        dueLine(x, 1, "1: 20=55 26=48");
        dueThrow(OUT_OF_BOUNDS, () -> x.line(6));
        dueWritten(x, "1: 20=55 26=48");
        x.efface(1, 5);
        x.undo();
        x.restore();
        dueWritten(x, "1: 20=55 26=48");
        dueLine(x, 1, "1:");
        // heights and years of one digit, of two and of three
        FloodStones y = new FloodStones();
        y.stone(0, 0, 1);
        y.chisel();
        y.flood(100, 9, 0);
        y.flood(0, 10, 0);
        y.flood(10, 99, 0);
        y.flood(9, 1, 0);
        for (int flood = 0; flood < 4; flood++) {
            y.cut(0, flood, 0);
        }
        dueLine(y, 0, "0: 1=9 9=100 10=0 99=10");
        y.efface(0, 3);
        y.epoch(100, -1);
        y.cut(0, 3, 0);
        dueLine(y, 0, "0: 0=9 9=100 10=0 99=10");
    }

    private static void character() {
        for (int index : new int[] {-1, 0, 1, LEAST, MOST}) {
            dueThrowAlone(OUT_OF_BOUNDS, Checks::empty, x -> x.character(index));
        }
        for (int index : new int[] {-1, 20, 21, 60, LEAST, MOST}) {
            dueThrowAlone(OUT_OF_BOUNDS, Checks::full, x -> x.character(index));
        }
        FloodStones x = full();
        due('2', () -> x.character(0));
        due(':', () -> x.character(1));
        due(' ', () -> x.character(2));
        due('=', () -> x.character(5));
        due('3', () -> x.character(19));
        // a shorter line leaves nothing of the longer one
        due(2, () -> x.line(3));
        due(':', () -> x.character(1));
        dueThrow(OUT_OF_BOUNDS, () -> x.character(2));
        dueThrow(OUT_OF_BOUNDS, () -> x.character(19));
    }

    private static void estimate() {
        dueNowhere(OUT_OF_BOUNDS, 12, (x, flood) -> x.estimate(flood));
        dueThrowAlone(ARITHMETIC, Checks::full, x -> x.estimate(7));
        dueThrowAlone(ARITHMETIC, Checks::full, x -> x.estimate(11));
        FloodStones x = full();
        due(20.5, () -> x.estimate(0));
        due(26.5, () -> x.estimate(1));
        due(23.5, () -> x.estimate(2));
        due(38, () -> x.estimate(3));
        due(50.5, () -> x.estimate(5));
        due(57, () -> x.estimate(6));
        x.efface(1, 6);
        dueThrow(ARITHMETIC, () -> x.estimate(6));
        // below 0, and a third
        FloodStones y = new FloodStones();
        y.stone(0, 0, 1);
        y.stone(0, 0, 1);
        y.stone(9, 0, 1);
        y.chisel();
        y.flood(1, 2, 0);
        y.cut(0, 0, 0);
        y.epoch(100, 1);
        y.cut(1, 0, 0);
        y.epoch(100, 9);
        due(-6.5, () -> y.estimate(0));
        y.cut(2, 0, 0);
        due((-7.0 - 6.0 + 2.0) / 3.0, () -> y.estimate(0));
        y.epoch(100, 2);
        due((0.0 + 1.0 + 9.0) / 3.0, () -> y.estimate(0));
    }

    private static void meanEdge() {
        dueThrowAlone(ARITHMETIC, Checks::empty, FloodStones::meanEdge);
        due(28.0f / 3.0f, () -> full().meanEdge());
        FloodStones x = new FloodStones();
        x.chisel();
        due(20, x::meanEdge);
        x.chisel();
        x.stone(0, 0, 5);
        x.flood(1, 50, 0);
        x.cut(0, 0, 1);
        due(17.5, x::meanEdge);
        x.chisel();
        due(55.0f / 3.0f, x::meanEdge);
        x.undo();
        x.undo();
        x.undo();
        x.undo();
        x.undo();
        x.undo();
        dueThrow(ARITHMETIC, x::meanEdge);
    }

    private static void account() {
        for (int out : beyond(0, 11)) {
            dueThrowAlone(BAD_ARGUMENT, Checks::full, x -> x.account(out));
            dueThrowAlone(BAD_ARGUMENT, Checks::empty, x -> x.account(out));
        }
        dueRow(empty(), (x, what) -> x.account(what), 100, 0, 0, 0, 0, 0, 0, 0, 0, 0, 0, 0);
        dueRow(full(), (x, what) -> x.account(what), 115, 6, 12, 4, 3, 11, 13, 1, 1, 1, 8, 4);
    }

    private static void reason() {
        for (int out : beyond(0, 2)) {
            dueThrowAlone(BAD_ARGUMENT, Checks::full, x -> x.reason(out));
            // what ahead of nothing being refused
            dueThrowAlone(BAD_ARGUMENT, Checks::empty, x -> x.reason(out));
        }
        for (int what = 0; what <= 2; what++) {
            int number = what;
            dueThrowAlone(NO_ELEMENT, Checks::empty, x -> x.reason(number));
        }
        dueRow(full(), (x, what) -> x.reason(what), 3, 9, 0);
    }

    private static void faultPosition() {
        due(-1, () -> empty().faultPosition());
        due(-1, () -> fullUntouched().faultPosition());
        due(3, () -> full().faultPosition());
    }

    private static void askingChangesNothing() {
        Asking[] calls = {x -> x.stoneOf(2, 5), x -> x.floodOf(2, 5), x -> x.floodIn(90), x -> x.before(90),
            x -> x.edge(0), x -> x.markOf(2, 2, 3), x -> x.markOf(2, 2, 4), x -> x.mark(2, 2), x -> x.level(2, 2),
            x -> x.reads(2, 2), x -> x.shift(104), x -> x.errorIn(2, 60), x -> x.rises(2) ? 1 : 0,
            x -> x.ranked(0), x -> x.ranked(11), FloodStones::doubts, FloodStones::doubtsAgain,
            FloodStones::faultPosition, x -> x.reason(0), x -> x.character(0), x -> x.estimate(2),
            FloodStones::meanEdge, x -> x.account(9)};
        for (Asking call : calls) {
            dueUntouched(Checks::full, ALL, call);
        }
        // a line changes nothing but the line
        for (Part part : Part.values()) {
            if (part != Part.LINE) {
                String want = told(full(), part);
                FloodStones x = full();
                x.line(0);
                due(1, () -> told(x, part).equals(want) ? 1 : 0);
            }
        }
    }

    public static void main(String[] args) {
        stoneOf();
        floodOf();
        floodIn();
        before();
        edge();
        markOf();
        mark();
        markByTheHeights();
        levelAndReads();
        shift();
        errorIn();
        rises();
        ranked();
        rankedByCreditLessDoubts();
        line();
        character();
        estimate();
        meanEdge();
        account();
        reason();
        faultPosition();
        askingChangesNothing();
        report();
    }
}
