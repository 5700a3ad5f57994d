/** Tests of each promise of ../shared/DOC.md: ordinary inputs, edges and wrong inputs. */
public final class PromisesTest extends Checks {
    /** A river with the stones 0 and 1, the floods 0 to 2 and the chisels 0 and 1. */
    private static FloodStones river() {
        FloodStones x = new FloodStones();
        x.stone(0, 0, 1);
        x.stone(14, 2, 5);
        x.flood(80, 40, 3);
        x.flood(60, 20, 0);
        x.flood(90, 60, 1);
        x.chisel();
        x.chisel();
        return x;
    }

    private static void promise1() {
        FloodStones x = new FloodStones();
        due(100, () -> x.account(0));
        for (int what = 1; what <= 11; what++) {
            int asked = what;
            due(0, () -> x.account(asked));
        }
        due(-1, x::faultPosition);
        due(0, () -> x.shift(100));
        dueThrow(NO_ELEMENT, () -> x.reason(0));
        dueThrow(BAD_STATE, x::undo);
        dueThrow(BAD_STATE, x::restore);
        dueThrow(OUT_OF_BOUNDS, () -> x.character(0));
        dueThrow(ARITHMETIC, x::meanEdge);
    }

    private static void promise2() {
        FloodStones x = new FloodStones();
        dueRefusal(x, 1, 0, () -> x.stone(-1, 0, 1));
        dueRefusal(x, 1, 0, () -> x.stone(51, 0, 1));
        dueRefusal(x, 1, 0, () -> x.stone(0, -1, 1));
        dueRefusal(x, 1, 0, () -> x.stone(0, 31, 1));
        dueRefusal(x, 1, 0, () -> x.stone(0, 0, 0));
        dueRefusal(x, 1, 0, () -> x.stone(0, 0, 6));
        due(0, () -> x.stone(0, 0, 1));
        due(1, () -> x.stone(50, 30, 5));
        for (int stone = 2; stone < 6; stone++) {
            due(stone, () -> x.stone(7, 8, 3));
        }
        dueRefusal(x, 2, 6, () -> x.stone(0, 0, 1));
        dueRefusal(x, 1, 0, () -> x.stone(0, 0, 9));
        due(6, () -> x.account(1));
        due(50, () -> x.stoneOf(1, 0));
        due(30, () -> x.stoneOf(1, 1));
        due(5, () -> x.stoneOf(1, 2));
    }

    private static void promise3() {
        FloodStones x = new FloodStones();
        dueRefusal(x, 1, 0, () -> x.flood(-1, 1, 0));
        dueRefusal(x, 1, 0, () -> x.flood(101, 1, 0));
        dueRefusal(x, 1, 0, () -> x.flood(0, 0, 0));
        dueRefusal(x, 1, 0, () -> x.flood(0, 100, 0));
        dueRefusal(x, 1, 0, () -> x.flood(0, 1, -1));
        dueRefusal(x, 1, 0, () -> x.flood(0, 1, 100));
        due(0, () -> x.flood(0, 99, 99));
        due(1, () -> x.flood(100, 1, 0));
        dueRefusal(x, 4, 1, () -> x.flood(100, 5, 5));
        dueRefusal(x, 4, 0, () -> x.flood(0, 5, 5));
        dueRefusal(x, 1, 0, () -> x.flood(100, 0, 5));
        x.years(1);
        due(2, () -> x.flood(101, 1, 0));
        for (int flood = 3; flood < 12; flood++) {
            int told = flood;
            due(told, () -> x.flood(told, 50, 1));
        }
        dueRefusal(x, 2, 12, () -> x.flood(50, 1, 0));
        dueRefusal(x, 4, 2, () -> x.flood(101, 1, 0));
        dueRefusal(x, 1, 0, () -> x.flood(102, 1, 0));
        due(12, () -> x.account(2));
    }

    private static void promise4() {
        FloodStones x = new FloodStones();
        dueRefusal(x, 1, 0, () -> x.epoch(-1, 0));
        dueRefusal(x, 1, 0, () -> x.epoch(1000, 0));
        dueRefusal(x, 1, 0, () -> x.epoch(0, 10));
        dueRefusal(x, 1, 0, () -> x.epoch(0, -10));
        due(1, () -> x.epoch(999, 9));
        due(2, () -> x.epoch(0, -9));
        due(2, () -> x.epoch(0, -8));
        due(3, () -> x.epoch(100, 4));
        due(4, () -> x.epoch(50, 3));
        dueRefusal(x, 2, 4, () -> x.epoch(51, 3));
        dueRefusal(x, 1, 0, () -> x.epoch(51, 99));
        due(4, () -> x.epoch(50, 5));
        due(4, () -> x.epoch(999, 8));
        due(8, () -> x.shift(999));
        due(5, () -> x.shift(50));
        due(-8, () -> x.shift(49));
        due(4, () -> x.account(3));
    }

    private static void promise5() {
        FloodStones x = new FloodStones();
        due(0, x::chisel);
        due(1, x::chisel);
        due(2, x::chisel);
        dueRefusal(x, 2, 3, x::chisel);
        due(20, () -> x.edge(2));
        due(3, () -> x.account(4));
    }

    private static void promise6() {
        FloodStones x = river();
        dueRefusal(x, 3, -1, () -> x.cut(-1, 9, 9));
        dueRefusal(x, 3, 2, () -> x.cut(2, 9, 9));
        dueRefusal(x, 3, 3, () -> x.cut(0, 3, 9));
        dueRefusal(x, 3, 2, () -> x.cut(0, 0, 2));
        due(40, () -> x.cut(0, 0, 0));
        due(11, () -> x.markOf(0, 0, 1));
        due(100, () -> x.markOf(0, 0, 2));
        due(19, () -> x.edge(0));
        dueRefusal(x, 5, 40, () -> x.cut(0, 0, 1));
        due(36, () -> x.cut(1, 0, 0));
        due(10, () -> x.markOf(1, 0, 1));
        due(14, () -> x.edge(0));
        due(2, () -> x.account(6));
    }

    private static void promise6Reach() {
        FloodStones x = new FloodStones();
        x.stone(50, 30, 1);
        x.chisel();
        x.flood(1, 40, 0);
        x.flood(2, 1, 0);
        x.flood(3, 41, 0);
        dueRefusal(x, 6, 1, () -> x.cut(0, 0, 0));
        dueRefusal(x, 6, 40, () -> x.cut(0, 1, 0));
        x.epoch(0, -2);
        dueRefusal(x, 7, -1, () -> x.cut(0, 2, 0));
        x.epoch(0, -1);
        due(0, () -> x.cut(0, 2, 0));
        x.stone(0, 0, 1);
        x.flood(4, 99, 0);
        x.epoch(0, 1);
        dueRefusal(x, 7, 100, () -> x.cut(1, 3, 0));
        x.epoch(0, 0);
        due(99, () -> x.cut(1, 3, 0));
    }

    private static void promise6Blunt() {
        FloodStones x = new FloodStones();
        x.stone(0, 0, 4);
        x.stone(0, 0, 5);
        x.chisel();
        for (int flood = 0; flood < 8; flood++) {
            x.flood(flood, 10 + flood, 0);
        }
        x.flood(20, 10, 0);
        for (int flood = 0; flood < 4; flood++) {
            x.cut(0, flood, 0);
        }
        due(4, () -> x.edge(0));
        dueRefusal(x, 8, 4, () -> x.cut(1, 0, 0));
        due(14, () -> x.cut(0, 4, 0));
        due(3, () -> x.markOf(0, 4, 1));
        due(0, () -> x.edge(0));
        dueRefusal(x, 8, 0, () -> x.cut(0, 8, 0));
        x.sharpen(0);
        dueRefusal(x, 9, 0, () -> x.cut(0, 8, 0));
        due(15, () -> x.cut(0, 5, 0));
        dueRefusal(x, 2, 6, () -> x.cut(0, 6, 0));
        dueRefusal(x, 9, 0, () -> x.cut(0, 8, 0));
        due(6, () -> x.stoneOf(0, 4));
    }

    private static void promise7() {
        FloodStones x = river();
        dueRefusal(x, 3, 2, () -> x.efface(2, 9));
        dueRefusal(x, 3, -7, () -> x.efface(0, -7));
        dueRefusal(x, 10, 2, () -> x.efface(0, 2));
        x.cut(0, 2, 0);
        x.cut(0, 1, 0);
        due(60, () -> x.efface(0, 2));
        dueRefusal(x, 10, 2, () -> x.efface(0, 2));
        due(1, () -> x.account(5));
        due(2, () -> x.account(6));
        due(1, () -> x.account(7));
        due(0, () -> x.account(8));
        due(8, () -> x.account(10));
        x.undo();
        due(0, () -> x.account(7));
        due(2, () -> x.account(5));
        due(60, () -> x.markOf(0, 2, 0));
        due(60, () -> x.efface(0, 2));
        due(60, () -> x.cut(0, 2, 0));
    }

    private static void promise8() {
        FloodStones x = river();
        dueRefusal(x, 3, 2, () -> x.sharpen(2));
        dueRefusal(x, 3, -1, () -> x.sharpen(-1));
        x.cut(1, 0, 0);
        due(15, () -> x.sharpen(0));
        due(20, () -> x.edge(0));
        due(20, () -> x.sharpen(1));
        due(8, () -> x.account(10));
        due(7, x::undo);
        due(6, x::undo);
        due(15, () -> x.edge(0));
    }

    private static void promise9() {
        FloodStones x = river();
        dueRefusal(x, 3, 2, () -> x.check(2));
        dueRefusal(x, 3, -1, () -> x.check(-1));
        x.years(2);
        due(1, () -> x.check(0));
        due(0, () -> x.check(0));
        due(0, () -> x.stoneOf(0, 3));
        due(1, () -> x.stoneOf(1, 3));
    }

    private static void promise10() {
        FloodStones x = river();
        dueRefusal(x, 3, 3, () -> x.witness(3, 0));
        dueRefusal(x, 3, -1, () -> x.witness(-1, 1));
        dueRefusal(x, 1, 0, () -> x.witness(0, 0));
        dueRefusal(x, 1, 0, () -> x.witness(0, 10));
        due(4, () -> x.witness(0, 1));
        due(13, () -> x.witness(0, 9));
        x.flood(1, 1, 91);
        dueRefusal(x, 2, 99, () -> x.witness(3, 9));
        dueRefusal(x, 1, 0, () -> x.witness(3, 10));
        due(99, () -> x.witness(3, 8));
        dueRefusal(x, 2, 99, () -> x.witness(3, 1));
        due(99, () -> x.floodOf(3, 2));
    }

    private static void promise11() {
        FloodStones x = river();
        dueRefusal(x, 1, 0, () -> x.years(0));
        dueRefusal(x, 1, 0, () -> x.years(-1));
        dueRefusal(x, 1, 0, () -> x.years(61));
        x.cut(0, 0, 0);
        x.cut(0, 1, 0);
        due(0, () -> x.years(1));
        due(0, () -> x.stoneOf(0, 3));
        due(0, () -> x.years(1));
        due(1, () -> x.stoneOf(0, 3));
        due(0, () -> x.years(2));
        due(11, () -> x.markOf(0, 0, 1));
        due(0, () -> x.years(1));
        due(10, () -> x.markOf(0, 0, 1));
        due(9, () -> x.markOf(0, 1, 1));
        due(0, () -> x.years(44));
        due(1, () -> x.markOf(0, 1, 1));
        due(1, () -> x.years(1));
        dueThrow(NO_ELEMENT, () -> x.markOf(0, 1, 0));
        due(0, () -> x.years(4));
        due(1, () -> x.years(60));
        due(214, () -> x.account(0));
        due(2, () -> x.account(8));
        due(0, () -> x.account(5));
        due(9, () -> x.stoneOf(0, 3));
    }

    private static void promise12() {
        FloodStones x = river();
        dueThrow(OUT_OF_BOUNDS, () -> x.stoneOf(2, 9));
        dueThrow(OUT_OF_BOUNDS, () -> x.stoneOf(-1, 0));
        dueThrow(BAD_ARGUMENT, () -> x.stoneOf(1, 6));
        dueThrow(BAD_ARGUMENT, () -> x.stoneOf(1, -1));
        x.cut(1, 2, 0);
        x.years(3);
        x.epoch(0, 9);
        int[] want = {14, 2, 5, 1, 1, 0};
        for (int what = 0; what < want.length; what++) {
            int asked = what;
            due(want[asked], () -> x.stoneOf(1, asked));
        }
        due(0, () -> x.stoneOf(0, 4));
    }

    /** Three marks, of which those for the floods 0 and 1 and those for 1 and 2 come into doubt. */
    private static FloodStones doubtful() {
        FloodStones x = new FloodStones();
        x.stone(0, 0, 1);
        x.chisel();
        x.flood(10, 30, 3);
        x.flood(20, 31, 1);
        x.flood(30, 31, 0);
        x.cut(0, 0, 0);
        x.years(3);
        x.cut(0, 1, 0);
        x.check(0);
        x.cut(0, 2, 0);
        return x;
    }

    private static void promise13() {
        FloodStones x = doubtful();
        dueThrow(OUT_OF_BOUNDS, () -> x.floodOf(3, 9));
        dueThrow(OUT_OF_BOUNDS, () -> x.floodOf(-1, 0));
        dueThrow(BAD_ARGUMENT, () -> x.floodOf(0, 6));
        dueThrow(BAD_ARGUMENT, () -> x.floodOf(0, -1));
        due(20, () -> x.floodOf(1, 0));
        due(31, () -> x.floodOf(1, 1));
        due(1, () -> x.floodOf(1, 2));
        due(1, () -> x.floodOf(1, 3));
        due(1, () -> x.floodOf(1, 4));
        due(5, () -> x.floodOf(1, 5));
        due(0, () -> x.floodOf(0, 4));
        due(30, () -> x.floodOf(0, 5));
        due(0, () -> x.floodOf(2, 5));
        x.epoch(101, 2);
        due(2, () -> x.floodOf(0, 4));
        due(20, () -> x.floodOf(0, 5));
        due(2, () -> x.floodOf(1, 4));
        due(0, () -> x.floodOf(1, 5));
        due(2, () -> x.floodOf(2, 4));
        due(3, () -> x.stoneOf(0, 5));
    }

    private static void promise14And15() {
        FloodStones x = river();
        due(0, () -> x.floodIn(80));
        due(1, () -> x.floodIn(60));
        dueThrow(NO_ELEMENT, () -> x.floodIn(81));
        dueThrow(NO_ELEMENT, () -> x.floodIn(-1));
        dueThrow(NO_ELEMENT, () -> x.floodIn(0));
        due(2, () -> x.before(Integer.MAX_VALUE));
        due(2, () -> x.before(91));
        due(0, () -> x.before(90));
        due(1, () -> x.before(80));
        due(1, () -> x.before(61));
        dueThrow(NO_ELEMENT, () -> x.before(60));
        dueThrow(NO_ELEMENT, () -> x.before(Integer.MIN_VALUE));
        dueThrow(NO_ELEMENT, () -> new FloodStones().before(100));
        dueThrow(NO_ELEMENT, () -> new FloodStones().floodIn(0));
    }

    private static void promise16() {
        FloodStones x = river();
        due(20, () -> x.edge(0));
        x.cut(1, 0, 0);
        due(15, () -> x.edge(0));
        due(20, () -> x.edge(1));
        dueThrow(OUT_OF_BOUNDS, () -> x.edge(2));
        dueThrow(OUT_OF_BOUNDS, () -> x.edge(-1));
    }

    private static void promise17() {
        FloodStones x = river();
        x.epoch(100, 2);
        x.cut(0, 0, 0);
        due(42, () -> x.markOf(0, 0, 0));
        due(11, () -> x.markOf(0, 0, 1));
        due(100, () -> x.markOf(0, 0, 2));
        due(40, () -> x.markOf(0, 0, 3));
        due(55, () -> x.markOf(0, 0, 4));
        x.years(4);
        due(51, () -> x.markOf(0, 0, 4));
        x.years(1);
        due(50, () -> x.markOf(0, 0, 4));
        x.years(50);
        dueThrow(NO_ELEMENT, () -> x.markOf(0, 0, 4));
        dueThrow(NO_ELEMENT, () -> x.markOf(0, 1, 0));
        dueThrow(BAD_ARGUMENT, () -> x.markOf(0, 1, 5));
        dueThrow(BAD_ARGUMENT, () -> x.markOf(0, 1, -1));
        dueThrow(OUT_OF_BOUNDS, () -> x.markOf(0, 3, 5));
        dueThrow(OUT_OF_BOUNDS, () -> x.markOf(2, 0, 5));
        dueThrow(OUT_OF_BOUNDS, () -> x.markOf(-1, 0, 0));
        dueThrow(OUT_OF_BOUNDS, () -> x.markOf(0, -1, 0));
    }

    private static void promise18() {
        FloodStones x = river();
        dueThrow(NO_ELEMENT, () -> x.mark(0, 0));
        x.cut(0, 0, 0);
        x.cut(0, 1, 0);
        x.cut(0, 2, 0);
        due(1, () -> x.mark(0, 0));
        due(0, () -> x.mark(0, 1));
        due(2, () -> x.mark(0, 2));
        dueThrow(NO_ELEMENT, () -> x.mark(0, 3));
        dueThrow(NO_ELEMENT, () -> x.mark(0, -1));
        dueThrow(NO_ELEMENT, () -> x.mark(1, 0));
        dueThrow(OUT_OF_BOUNDS, () -> x.mark(2, 0));
        dueThrow(OUT_OF_BOUNDS, () -> x.mark(-1, 0));
    }

    private static void promise19And20() {
        FloodStones x = new FloodStones();
        x.stone(49, 30, 1);
        x.flood(1, 1, 0);
        x.flood(2, 99, 0);
        due(-38, () -> x.level(0, 0));
        due(60, () -> x.level(0, 1));
        dueThrow(OUT_OF_BOUNDS, () -> x.level(1, 0));
        dueThrow(OUT_OF_BOUNDS, () -> x.level(0, 2));
        dueThrow(OUT_OF_BOUNDS, () -> x.level(-1, 0));
        dueThrow(OUT_OF_BOUNDS, () -> x.level(0, -1));
        due(60, () -> x.reads(0, 1));
        x.epoch(103, -9);
        x.years(2);
        due(61, () -> x.reads(0, 1));
        x.years(1);
        due(52, () -> x.reads(0, 1));
        due(-46, () -> x.reads(0, 0));
        dueThrow(OUT_OF_BOUNDS, () -> x.reads(1, 0));
        dueThrow(OUT_OF_BOUNDS, () -> x.reads(0, 2));
        dueThrow(OUT_OF_BOUNDS, () -> x.reads(-1, 0));
        dueThrow(OUT_OF_BOUNDS, () -> x.reads(0, -1));
    }

    private static void promise21() {
        FloodStones x = new FloodStones();
        due(0, () -> x.shift(0));
        x.epoch(500, 7);
        x.epoch(0, 1);
        x.epoch(200, -3);
        due(1, () -> x.shift(0));
        due(1, () -> x.shift(199));
        due(-3, () -> x.shift(200));
        due(-3, () -> x.shift(499));
        due(7, () -> x.shift(500));
        due(7, () -> x.shift(999));
        dueThrow(BAD_ARGUMENT, () -> x.shift(-1));
        dueThrow(BAD_ARGUMENT, () -> x.shift(1000));
    }

    private static void promise22() {
        FloodStones x = river();
        due(0, () -> x.errorIn(0, 0));
        due(0, () -> x.errorIn(0, 1));
        due(1, () -> x.errorIn(0, 2));
        due(1, () -> x.errorIn(0, 4));
        due(2, () -> x.errorIn(0, 5));
        due(8, () -> x.errorIn(0, 25));
        due(9, () -> x.errorIn(0, 26));
        due(9, () -> x.errorIn(0, 60));
        x.years(3);
        due(1, () -> x.errorIn(0, 0));
        due(1, () -> x.errorIn(0, 1));
        due(2, () -> x.errorIn(0, 2));
        due(103, () -> x.account(0));
        x.years(1);
        due(1, () -> x.errorIn(0, 0));
        due(2, () -> x.errorIn(0, 1));
        x.years(1);
        due(2, () -> x.errorIn(0, 0));
        due(2, () -> x.errorIn(0, 2));
        dueThrow(OUT_OF_BOUNDS, () -> x.errorIn(2, 99));
        dueThrow(OUT_OF_BOUNDS, () -> x.errorIn(-1, 0));
        dueThrow(BAD_ARGUMENT, () -> x.errorIn(0, -1));
        dueThrow(BAD_ARGUMENT, () -> x.errorIn(0, 61));
    }

    private static void promise23() {
        FloodStones x = doubtful();
        due(0, () -> x.rises(0) ? 1 : 0);
        x.efface(0, 1);
        due(1, () -> x.rises(0) ? 1 : 0);
        x.epoch(101, 1);
        due(0, () -> x.rises(0) ? 1 : 0);
        dueThrow(OUT_OF_BOUNDS, () -> x.rises(1) ? 1 : 0);
        dueThrow(OUT_OF_BOUNDS, () -> x.rises(-1) ? 1 : 0);
    }

    private static void promise24() {
        FloodStones x = new FloodStones();
        dueThrow(NO_ELEMENT, () -> x.ranked(0));
        x.flood(50, 20, 2);
        x.flood(40, 20, 2);
        x.flood(30, 10, 2);
        x.flood(20, 30, 2);
        x.flood(10, 1, 3);
        int[] want = {4, 3, 1, 0, 2};
        for (int rank = 0; rank < want.length; rank++) {
            int asked = rank;
            due(want[asked], () -> x.ranked(asked));
        }
        dueThrow(NO_ELEMENT, () -> x.ranked(5));
        dueThrow(NO_ELEMENT, () -> x.ranked(-1));
        FloodStones y = doubtful();
        y.witness(1, 2);
        due(0, () -> y.ranked(0));
        y.witness(1, 1);
        due(1, () -> y.ranked(0));
    }

    private static void promise25And26() {
        FloodStones x = doubtful();
        due(0, () -> new FloodStones().doubts());
        due(1, x::doubts);
        due(0, () -> new FloodStones().doubtsAgain());
        due(1, x::doubtsAgain);
        x.epoch(101, 2);
        x.stone(0, 0, 1);
        x.cut(1, 1, 0);
        x.epoch(101, 9);
        x.cut(1, 2, 0);
        due(4, x::doubts);
        due(4, x::doubtsAgain);
        due(2, () -> x.account(9));
    }

    private static void promise27() {
        FloodStones x = new FloodStones();
        for (int i = 1; i <= 60; i++) {
            due(i, () -> x.append('y'));
        }
        dueThrow(BAD_STATE, () -> x.append('1'));
        due(60, () -> x.account(11));
        dueThrow(BAD_ARGUMENT, x::commands);
        due(1, x::faultPosition);
        due(1, () -> x.append((char) 65535));
        dueThrow(BAD_ARGUMENT, x::commands);
        due(0, x::faultPosition);
    }

    private static void promise28() {
        FloodStones x = river();
        dueCommands(x, "m0:0/0;m0:01/1;k1;s0;w2+9;y02;x0:00", 7);
        due(102, () -> x.account(0));
        due(1, () -> x.account(5));
        due(20, () -> x.edge(0));
        due(19, () -> x.edge(1));
        due(10, () -> x.floodOf(2, 2));
        due(7, x::undo);
        due(100, () -> x.account(0));
        due(0, () -> x.account(6));
        due(0, () -> x.account(7));
        due(1, () -> x.floodOf(2, 2));
        dueRefusedCommand(x, "m0:0/0;m0:0/0", 5, 40, 1);
        due(0, () -> x.account(5));
        due(20, () -> x.edge(0));
        due(7, () -> x.account(10));
        dueRefusedCommand(x, "y1;y60;y61", 1, 0, 2);
        due(100, () -> x.account(0));
        dueRefusedCommand(x, "m9:99/9", 3, 9, 0);
        dueRefusedCommand(x, "k0;x0:99", 3, 99, 1);
        dueRefusedCommand(x, "x1:2", 10, 2, 0);
        dueRefusedCommand(x, "k2", 3, 2, 0);
        dueRefusedCommand(x, "s2", 3, 2, 0);
        dueRefusedCommand(x, "w0+0", 1, 0, 0);
        dueRefusedCommand(x, "w12+0", 3, 12, 0);
        dueCommands(x, "y1;y1;y1;y1;y1;y1;y1;y1;y1;y1;y1;y1;y1;y1;y1;y1;y1;y1;y1;y1", 20);
        due(120, () -> x.account(0));
        dueThrow(REFUSED, () -> x.stone(-1, 0, 0));
        due(0, () -> x.reason(2));
    }

    /** Each number of a command goes where it belongs. */
    private static void promise28Numbers() {
        FloodStones x = river();
        x.chisel();
        x.years(3);
        dueCommands(x, "m1:2/2;m0:0/1;k1;x1:2", 4);
        due(20, () -> x.edge(0));
        due(19, () -> x.edge(1));
        due(15, () -> x.edge(2));
        due(0, () -> x.stoneOf(1, 3));
        due(1, () -> x.stoneOf(0, 3));
        dueThrow(NO_ELEMENT, () -> x.markOf(1, 2, 0));
        due(41, () -> x.markOf(0, 0, 0));
        dueCommands(x, "s2;y10;w01+7", 3);
        due(20, () -> x.edge(2));
        due(113, () -> x.account(0));
        due(7, () -> x.floodOf(1, 2));
        due(3, () -> x.floodOf(0, 2));
        dueRefusedCommand(x, "m1:1/1;m0:2/3", 3, 3, 1);
        due(19, () -> x.edge(1));
        due(3, () -> x.account(4));
    }

    private static void promise29() {
        FloodStones x = river();
        dueFault(x, "", 0);
        dueFault(x, "q", 0);
        dueFault(x, ";", 0);
        dueFault(x, "M0:0/0", 0);
        dueFault(x, "m", 1);
        dueFault(x, "m:", 1);
        dueFault(x, "m00", 2);
        dueFault(x, "m0:/", 3);
        dueFault(x, "m0:123", 5);
        dueFault(x, "m0:12", 5);
        dueFault(x, "m0:1/", 5);
        dueFault(x, "m0:1/00", 6);
        dueFault(x, "x0:1/0", 4);
        dueFault(x, "x0:111", 5);
        dueFault(x, "k", 1);
        dueFault(x, "k00", 2);
        dueFault(x, "s1 ", 2);
        dueFault(x, "w1", 2);
        dueFault(x, "w1+", 3);
        dueFault(x, "w01+99", 5);
        dueFault(x, "w+1", 1);
        dueFault(x, "y", 1);
        dueFault(x, "y-1", 1);
        dueFault(x, "y100", 3);
        dueFault(x, "y1;", 3);
        dueFault(x, "y1;;", 3);
        dueFault(x, "y1,y1", 2);
        dueFault(x, "y/", 1);
        dueFault(x, "y:", 1);
        dueFault(x, "y1;y1;y1;y1;y1;y1;y1;y1;y1;y1;y1;y1;y1;y1;y1;y1;y1;y1;y01;w1", 60);
        due(100, () -> x.account(0));
        dueCommands(x, "y1", 1);
        dueFault(x, "y1;k", 4);
        due(101, () -> x.account(0));
        x.undo();
        due(4, x::faultPosition);
        dueThrow(NO_ELEMENT, () -> x.reason(0));
    }

    private static void promise30() {
        FloodStones x = new FloodStones();
        dueThrow(BAD_ARGUMENT, () -> x.reason(-1));
        dueThrow(BAD_ARGUMENT, () -> x.reason(3));
        dueThrow(NO_ELEMENT, () -> x.reason(0));
        dueThrow(NO_ELEMENT, () -> x.reason(2));
        dueRefusedCommand(x, "y1;s7", 3, 7, 1);
        x.chisel();
        x.save();
        x.undo();
        x.restore();
        due(3, () -> x.reason(0));
        due(7, () -> x.reason(1));
        due(1, () -> x.reason(2));
        dueThrow(BAD_ARGUMENT, () -> x.reason(3));
        dueThrow(REFUSED, () -> x.years(0));
        due(1, () -> x.reason(0));
        due(0, () -> x.reason(1));
        due(0, () -> x.reason(2));
    }

    private static void promise31And32() {
        FloodStones x = river();
        dueLine(x, 1, "1:");
        x.cut(0, 0, 0);
        x.cut(0, 2, 0);
        x.cut(0, 1, 0);
        dueLine(x, 0, "0: 20=60 40=80 60=90");
        dueThrow(OUT_OF_BOUNDS, () -> x.line(2));
        dueThrow(OUT_OF_BOUNDS, () -> x.line(-1));
        due('0', () -> x.character(0));
        x.efface(0, 0);
        due('0', () -> x.character(19));
        dueThrow(OUT_OF_BOUNDS, () -> x.character(20));
        dueThrow(OUT_OF_BOUNDS, () -> x.character(-1));
        dueLine(x, 0, "0: 20=60 60=90");
        x.flood(0, 3, 0);
        x.cut(0, 3, 0);
        x.years(60);
        x.flood(160, 50, 0);
        x.cut(0, 4, 0);
        dueLine(x, 0, "0: 59=160");
        x.undo();
        due('=', () -> x.character(5));
    }

    private static void promise33() {
        FloodStones x = river();
        dueThrow(ARITHMETIC, () -> x.estimate(0));
        dueThrow(OUT_OF_BOUNDS, () -> x.estimate(3));
        dueThrow(OUT_OF_BOUNDS, () -> x.estimate(-1));
        x.cut(0, 0, 0);
        due(40, () -> x.estimate(0));
        x.years(3);
        x.cut(1, 0, 1);
        due(40.5, () -> x.estimate(0));
        x.stone(0, 0, 1);
        x.cut(2, 0, 0);
        due(121.0 / 3.0, () -> x.estimate(0));
        x.epoch(103, 3);
        due(115.0 / 3.0, () -> x.estimate(0));
    }

    private static void promise34() {
        FloodStones x = river();
        due(20, x::meanEdge);
        x.cut(1, 0, 0);
        due(17.5, x::meanEdge);
        x.chisel();
        due(55.0f / 3.0f, x::meanEdge);
        dueThrow(ARITHMETIC, () -> new FloodStones().meanEdge());
    }

    private static void promise35() {
        FloodStones x = river();
        x.epoch(0, 0);
        x.cut(0, 0, 0);
        x.cut(0, 1, 0);
        x.cut(1, 2, 0);
        x.efface(0, 1);
        x.years(45);
        x.cut(1, 0, 1);
        x.years(10);
        x.cut(1, 1, 1);
        x.append('y');
        int[] want = {155, 2, 3, 1, 2, 2, 5, 1, 2, 0, 8, 1};
        for (int what = 0; what < want.length; what++) {
            int asked = what;
            due(want[asked], () -> x.account(asked));
        }
        dueThrow(BAD_ARGUMENT, () -> x.account(12));
        dueThrow(BAD_ARGUMENT, () -> x.account(-1));
        due(1, () -> doubtful().account(9));
    }

    private static void promise36() {
        FloodStones x = new FloodStones();
        dueThrow(BAD_STATE, x::undo);
        for (int i = 0; i < 6; i++) {
            x.stone(0, 0, 1);
        }
        x.chisel();
        x.flood(0, 5, 0);
        x.epoch(7, 7);
        x.cut(0, 0, 0);
        x.witness(0, 1);
        due(8, () -> x.account(10));
        x.append('k');
        dueThrow(BAD_ARGUMENT, () -> x.account(99));
        due(7, x::undo);
        due(0, () -> x.floodOf(0, 2));
        due(6, x::undo);
        due(0, () -> x.account(6));
        due(20, () -> x.edge(0));
        due(5, x::undo);
        due(0, () -> x.account(3));
        due(4, x::undo);
        dueThrow(NO_ELEMENT, () -> x.floodIn(0));
        due(3, x::undo);
        due(2, x::undo);
        due(5, () -> x.account(1));
        due(1, x::undo);
        due(0, x::undo);
        dueThrow(BAD_STATE, x::undo);
        due(3, () -> x.account(1));
        due(1, () -> x.account(11));
        x.years(60);
        x.check(0);
        x.chisel();
        x.sharpen(0);
        due(3, x::undo);
        due(2, x::undo);
        due(1, x::undo);
        due(9, () -> x.stoneOf(0, 3));
        due(0, x::undo);
        due(100, () -> x.account(0));
    }

    /** All numbers of a river with one stone, one flood, a mark, an epoch and a chisel. */
    private static void dueNumbers(FloodStones x, double... want) {
        double[] got = {x.stoneOf(0, 0), x.stoneOf(0, 1), x.stoneOf(0, 2), x.stoneOf(0, 3),
            x.floodOf(0, 0), x.floodOf(0, 1), x.floodOf(0, 2), x.markOf(0, 0, 0), x.markOf(0, 0, 1),
            x.markOf(0, 0, 2), x.shift(89), x.shift(90), x.shift(999), x.edge(0), x.account(0), x.account(4),
            x.account(6), x.account(7), x.account(8)};
        due(want.length, () -> got.length);
        for (int i = 0; i < Math.min(want.length, got.length); i++) {
            int asked = i;
            due(want[asked], () -> got[asked]);
        }
    }

    /** What was saved comes back whole, in place of another river with as many things of other numbers. */
    private static void promise38Whole() {
        FloodStones x = new FloodStones();
        x.stone(11, 4, 2);
        x.flood(70, 50, 6);
        x.epoch(90, 5);
        x.chisel();
        type(x, "m0:0/0;y60;s0;m0:0/0;x0:0;y1;m0:0/0;y9");
        due(8, x::commands);
        double[] first = {11, 4, 2, 9, 70, 50, 6, 58, 8, 161, 0, 5, 5, 16, 170, 1, 3, 1, 1};
        dueNumbers(x, first);
        due(170, x::save);
        for (int left = 4; left >= 0; left--) {
            due(left, x::undo);
        }
        due(0, () -> x.account(1));
        due(0, () -> x.account(2));
        x.stone(30, 1, 3);
        x.flood(20, 90, 1);
        x.epoch(80, -6);
        x.chisel();
        x.chisel();
        x.years(3);
        x.cut(0, 0, 0);
        dueNumbers(x, 30, 1, 3, 1, 20, 90, 1, 78, 11, 103, -6, -6, -6, 17, 103, 2, 1, 0, 0);
        due(170, x::restore);
        dueNumbers(x, first);
        x.epoch(90, 1);
        x.years(50);
        x.witness(0, 1);
        for (int left = 2; left >= 0; left--) {
            due(left, x::undo);
        }
        dueNumbers(x, first);
    }

    private static void promise37And38() {
        FloodStones x = river();
        x.cut(0, 0, 0);
        due(100, x::save);
        x.efface(0, 0);
        x.years(60);
        due(100, x::restore);
        due(0, () -> x.account(10));
        dueThrow(BAD_STATE, x::undo);
        due(1, () -> x.account(5));
        due(0, () -> x.account(7));
        due(0, () -> x.stoneOf(0, 3));
        x.years(5);
        due(105, x::save);
        x.append('y');
        due(0, x::undo);
        due(100, () -> x.account(0));
        due(105, x::restore);
        due(105, x::restore);
        due(1, () -> x.account(11));
        dueThrow(BAD_STATE, () -> new FloodStones().restore());
    }

    public static void main(String[] args) {
        promise1();
        promise2();
        promise3();
        promise4();
        promise5();
        promise6();
        promise6Reach();
        promise6Blunt();
        promise7();
        promise8();
        promise9();
        promise10();
        promise11();
        promise12();
        promise13();
        promise14And15();
        promise16();
        promise17();
        promise18();
        promise19And20();
        promise21();
        promise22();
        promise23();
        promise24();
        promise25And26();
        promise27();
        promise28();
        promise28Numbers();
        promise29();
        promise30();
        promise31And32();
        promise33();
        promise34();
        promise35();
        promise36();
        promise37And38();
        promise38Whole();
        report();
    }
}
