/** Promises 1 to 5 and 13: what a log is told, and how much of it is wood; a test for each sentence with an edge. */
public final class TellTest {
    private static final int[] SIDES = {1, 2, 3, 19, 20};

    public static void main(String[] args) {
        Check.each(
            TellTest::promise1Side,
            TellTest::promise1Kerf,
            TellTest::promise1NewObject,
            TellTest::promise2IsNew,
            TellTest::promise2EachCell,
            TellTest::promise2NoSuchEnd,
            TellTest::promise2NoSuchCell,
            TellTest::promise3FromOnTo,
            TellTest::promise3NotItself,
            TellTest::promise3Empty,
            TellTest::promise3OnlyIn,
            TellTest::promise3WholeRow,
            TellTest::promise3NoSuchEndOrRow,
            TellTest::promise3From,
            TellTest::promise3To,
            TellTest::promise3IndexFirst,
            TellTest::promise4AnotherOne,
            TellTest::promise4EachCell,
            TellTest::promise4NoSuchCell,
            TellTest::promise4Loss,
            TellTest::promise4IndexFirst,
            TellTest::promise5Number,
            TellTest::promise5Thick,
            TellTest::promise5Wide,
            TellTest::promise5Worth,
            TellTest::promise5Wane,
            TellTest::promise5ThereAreEight,
            TellTest::promise5ArgumentFirst,
            TellTest::promise13Wood,
            TellTest::promise13Edges,
            TellTest::promise13Always);
        Check.end("TellTest");
    }

    private static void promise1Side() {
        Check.sentence("SIDE the nearest of 1 .. 20");
        int[][] nearest = {{Integer.MIN_VALUE, 1}, {Integer.MIN_VALUE + 20, 1}, {-65535, 1}, {-20, 1}, {-1, 1}, {0, 1},
            {1, 1}, {2, 2}, {3, 3}, {10, 10}, {19, 19}, {20, 20}, {21, 20}, {22, 20}, {65537, 20},
            {Integer.MAX_VALUE, 20}};
        for (int[] pair : nearest) {
            SawGrids saw = new SawGrids(pair[0], 0);
            int side = pair[1];
            String what = " of side " + pair[0];
            Check.yes("last cell" + what, saw.cell(0, side - 1, side - 1, true));
            Check.noIndex("x beyond" + what, () -> saw.cell(0, side, 0, true));
            Check.noIndex("y beyond" + what, () -> saw.cell(0, 0, side, true));
            Check.noArgument("span beyond" + what, () -> saw.span(0, 0, 0, side + 1));
            saw.size(side, side, 9, 400);
            Check.yes("all of it" + what, saw.may(0, 0, 0, 0));
            Check.same("boards" + what, saw.run(), 1);
        }
    }

    private static void promise1Kerf() {
        Check.sentence("KERF of 0 .. 4");
        int[][] nearest = {{Integer.MIN_VALUE, 0}, {Integer.MIN_VALUE + 3, 0}, {-65535, 0}, {-4, 0}, {-1, 0}, {0, 0},
            {1, 1}, {2, 2}, {3, 3}, {4, 4}, {5, 4}, {6, 4}, {65537, 4}, {Integer.MAX_VALUE, 4}};
        for (int[] pair : nearest) {
            int kerf = pair[1];
            String what = " with kerf " + pair[0];
            for (int wide = 1; wide <= 3; wide++) {
                SawGrids saw = Logs.row(10, pair[0], 0, 0, 10);
                saw.size(1, wide, 1, 0);
                int boards = (10 + kerf) / (wide + kerf);
                Check.same("sum" + what, saw.worth(0), boards);
                Check.same("boards" + what, saw.run(), boards);
                Check.same("second board" + what, saw.board(1, 1), wide + kerf);
            }
        }
    }

    private static void promise1NewObject() {
        Check.sentence("Promise 1: A new object");
        SawGrids saw = new SawGrids(5, 1);
        Check.same("NONE", SawGrids.NONE, -1);
        Check.same("wood of a new log", saw.wood(), 0);
        Check.noIndex("sizes of a new log", () -> saw.may(0, 0, 0, 0));
        Logs.isUnsawn("nothing", saw);
        Check.same("lying worth of a new log", saw.worth(0), 0);
        Check.same("turned worth of a new log", saw.worth(1), 0);
        Check.same("run of a new log", saw.run(), 0);
        Logs.isAll("a new log", saw, 0, 0, 0, 0);
        // One object's tables are not another one's.
        SawGrids other = Logs.whole(5, 1);
        other.size(1, 1, 1, 0);
        Check.same("wood of one log", saw.wood(), 0);
        Check.same("wood of another", other.wood(), 25);
        Check.noIndex("sizes of one log", () -> saw.may(0, 0, 0, 0));
        Logs.isAll("one log is still sawn", saw, 0, 0, 0, 0);
    }

    private static void promise2IsNew() {
        Check.sentence("A cell is IN at an end, or not: whether that is new.");
        for (int end = 0; end < 2; end++) {
            SawGrids saw = new SawGrids(3, 0);
            String what = " at end " + end;
            Check.no("not in at first" + what, saw.cell(end, 1, 2, false));
            Check.yes("in" + what, saw.cell(end, 1, 2, true));
            Check.no("in again" + what, saw.cell(end, 1, 2, true));
            Check.yes("not in" + what, saw.cell(end, 1, 2, false));
            Check.no("not in again" + what, saw.cell(end, 1, 2, false));
            Check.yes("in once more" + what, saw.cell(end, 1, 2, true));
            Check.no("the other end is another", saw.cell(1 - end, 1, 2, false));
            Check.yes("the other end", saw.cell(1 - end, 1, 2, true));
            Check.no("still in" + what, saw.cell(end, 1, 2, true));
            Check.yes("x and y are not the same" + what, saw.cell(end, 2, 1, true));
        }
    }

    /** No two cells share a place: each is new just once, whatever the others are. */
    private static void promise2EachCell() {
        Check.sentence("A cell is IN at an end, or not");
        for (int side : SIDES) {
            for (int end = 0; end < 2; end++) {
                SawGrids saw = new SawGrids(side, 0);
                for (int k = 0; k < side * side; k++) {
                    Check.yes("cell " + k + " of side " + side, saw.cell(end, k % side, k / side, true));
                }
                Check.no("the other end of side " + side, saw.cell(1 - end, side - 1, side - 1, false));
            }
        }
    }

    private static void promise2NoSuchEnd() {
        Check.sentence("IndexOutOfBoundsException: there is no such cell, end");
        SawGrids saw = new SawGrids(3, 0);
        for (int end : Logs.outside(0, 1)) {
            Check.noIndex("in at end " + end, () -> saw.cell(end, 0, 0, true));
            Check.noIndex("out at end " + end, () -> saw.cell(end, 0, 0, false));
        }
    }

    private static void promise2NoSuchCell() {
        Check.sentence("IndexOutOfBoundsException: there is no such cell");
        for (int side : SIDES) {
            SawGrids saw = new SawGrids(side, 0);
            for (int wild : Logs.outside(0, side - 1)) {
                Check.noIndex("x " + wild + " of side " + side, () -> saw.cell(0, wild, 0, true));
                Check.noIndex("y " + wild + " of side " + side, () -> saw.cell(1, 0, wild, true));
                Check.noIndex("x and y " + wild + " of side " + side, () -> saw.cell(0, wild, wild, true));
            }
            // Counted row by row these would be cells of a neighbouring row.
            Check.noIndex("end of the row above", () -> saw.cell(0, -1, side - 1, true));
            Check.noIndex("begin of the row below", () -> saw.cell(0, side, 0, true));
            Check.noIndex("a row too low", () -> saw.cell(0, -side, side, true));
            Check.noIndex("a row too high", () -> saw.cell(1, side, -1, true));
        }
    }

    private static void promise3FromOnTo() {
        Check.sentence("Cells of a row y at an end from x on to another one (not itself) are IN.");
        for (int end = 0; end < 2; end++) {
            SawGrids saw = new SawGrids(6, 0);
            saw.span(end, 2, 1, 4);
            for (int x = 0; x < 6; x++) {
                String what = " of end " + end + ", x " + x;
                Check.same("the row" + what, saw.cell(end, x, 2, true) ? 1 : 0, x >= 1 && x < 4 ? 0 : 1);
                Check.yes("the row above" + what, saw.cell(end, x, 1, true));
                Check.yes("the row below" + what, saw.cell(end, x, 3, true));
                Check.yes("the other end" + what, saw.cell(1 - end, x, 2, true));
            }
        }
    }

    private static void promise3NotItself() {
        Check.sentence("to another one (not itself)");
        for (int from = 0; from < 4; from++) {
            SawGrids saw = new SawGrids(5, 0);
            saw.span(0, 4, from, from + 1);
            Check.no("from itself " + from, saw.cell(0, from, 4, true));
            Check.yes("to itself " + from, saw.cell(0, from + 1, 4, true));
        }
    }

    private static void promise3Empty() {
        Check.sentence("IllegalArgumentException: from is not 0 .. SIDE, or to not from .. SIDE.");
        for (int side : SIDES) {
            for (int from = 0; from <= side; from++) {
                SawGrids saw = new SawGrids(side, 0);
                saw.span(0, side - 1, from, from);
                for (int x = 0; x < side; x++) {
                    Check.yes("empty span of side " + side + ", x " + x, saw.cell(0, x, side - 1, true));
                }
            }
        }
    }

    private static void promise3OnlyIn() {
        Check.sentence("Cells of a row y at an end from x on to another one (not itself) are IN.");
        SawGrids saw = new SawGrids(6, 0);
        saw.span(0, 0, 0, 3);
        saw.span(0, 0, 2, 5);
        saw.span(0, 0, 4, 4);
        for (int x = 0; x < 6; x++) {
            Check.same("spans add up, x " + x, saw.cell(0, x, 0, true) ? 1 : 0, x < 5 ? 0 : 1);
        }
    }

    private static void promise3WholeRow() {
        Check.sentence("from is not 0 .. SIDE, or to not from .. SIDE");
        for (int side : SIDES) {
            SawGrids saw = new SawGrids(side, 0);
            for (int y = 0; y < side; y++) {
                saw.span(0, y, 0, side);
                saw.span(1, y, 0, side);
                Check.same("rows of side " + side, saw.wood(), side * (y + 1));
            }
        }
    }

    private static void promise3NoSuchEndOrRow() {
        Check.sentence("IndexOutOfBoundsException: no such end, or row");
        for (int side : SIDES) {
            SawGrids saw = new SawGrids(side, 0);
            for (int wild : Logs.outside(0, 1)) {
                Check.noIndex("end " + wild, () -> saw.span(wild, 0, 0, side));
                Check.noIndex("end " + wild + " of nothing", () -> saw.span(wild, 0, 0, 0));
            }
            for (int wild : Logs.outside(0, side - 1)) {
                Check.noIndex("row " + wild, () -> saw.span(0, wild, 0, side));
                Check.noIndex("row " + wild + " of nothing", () -> saw.span(1, wild, side, side));
            }
        }
    }

    private static void promise3From() {
        Check.sentence("IllegalArgumentException: from is not 0 .. SIDE");
        for (int side : SIDES) {
            SawGrids saw = new SawGrids(side, 0);
            for (int wild : Logs.outside(0, side)) {
                Check.noArgument("from " + wild, () -> saw.span(0, 0, wild, side));
                Check.noArgument("from " + wild + " to itself", () -> saw.span(1, 0, wild, wild));
                Check.noArgument("from " + wild + " to 0", () -> saw.span(0, side - 1, wild, 0));
            }
            saw.span(0, 0, 0, side);
            saw.span(0, 0, side, side);
        }
    }

    private static void promise3To() {
        Check.sentence("or to not from .. SIDE");
        for (int side : SIDES) {
            SawGrids saw = new SawGrids(side, 0);
            for (int wild : Logs.outside(0, side)) {
                Check.noArgument("to " + wild, () -> saw.span(0, 0, 0, wild));
                Check.noArgument("to " + wild + " from the side", () -> saw.span(1, 0, side, wild));
            }
            for (int from = 1; from <= side; from++) {
                int before = from - 1;
                Check.noArgument("to " + before, () -> saw.span(0, 0, before + 1, before));
                Check.noArgument("to 0 from " + from, () -> saw.span(0, 0, before + 1, 0));
            }
            Check.yes("nothing is in", saw.cell(0, 0, 0, true));
        }
    }

    private static void promise3IndexFirst() {
        Check.sentence("of several exceptions the one named first is thrown");
        SawGrids saw = new SawGrids(4, 0);
        Check.noIndex("end, from", () -> saw.span(2, 0, -1, 4));
        Check.noIndex("end, to", () -> saw.span(-1, 0, 0, 5));
        Check.noIndex("row, from", () -> saw.span(0, 4, 5, 4));
        Check.noIndex("row, to", () -> saw.span(0, -1, 3, 2));
        Check.noIndex("all four", () -> saw.span(9, 9, 9, 8));
    }

    private static void promise4AnotherOne() {
        Check.sentence("A KNOT: whether it is another one.");
        SawGrids saw = new SawGrids(4, 0);
        Check.no("no knot is loss 0", saw.knot(1, 3, 0));
        Check.yes("a knot", saw.knot(1, 3, 5));
        Check.no("the same knot", saw.knot(1, 3, 5));
        Check.yes("a lesser one", saw.knot(1, 3, 4));
        Check.yes("another cell's knot", saw.knot(3, 1, 4));
        Check.yes("no knot again", saw.knot(1, 3, 0));
        Check.no("no knot again, again", saw.knot(1, 3, 0));
        Check.no("the other cell's stays", saw.knot(3, 1, 4));
        // A knot takes the place of the one before, it does not come on top of it.
        SawGrids sawn = Logs.whole(1, 0);
        sawn.size(1, 1, 10, 0);
        sawn.knot(0, 0, 4);
        sawn.knot(0, 0, 3);
        Check.same("only the last knot counts", sawn.worth(0), 7);
    }

    private static void promise4EachCell() {
        Check.sentence("A cell may have a KNOT, a loss 0 .. 10000 (0 at first).");
        for (int side : SIDES) {
            SawGrids saw = new SawGrids(side, 0);
            for (int k = 0; k < side * side; k++) {
                Check.no("no knot at first, cell " + k + " of side " + side, saw.knot(k % side, k / side, 0));
            }
            SawGrids other = new SawGrids(side, 0);
            for (int k = 0; k < side * side; k++) {
                Check.yes("a knot, cell " + k + " of side " + side, other.knot(k % side, k / side, 1));
            }
        }
    }

    private static void promise4NoSuchCell() {
        Check.sentence("IndexOutOfBoundsException: there is no such cell");
        for (int side : SIDES) {
            SawGrids saw = new SawGrids(side, 0);
            for (int wild : Logs.outside(0, side - 1)) {
                Check.noIndex("x " + wild, () -> saw.knot(wild, 0, 1));
                Check.noIndex("y " + wild, () -> saw.knot(0, wild, 1));
                Check.noIndex("x and y " + wild, () -> saw.knot(wild, wild, 0));
            }
            Check.noIndex("end of the row above", () -> saw.knot(-1, side - 1, 1));
            Check.noIndex("begin of the row below", () -> saw.knot(side, 0, 1));
            Check.yes("the last cell", saw.knot(side - 1, side - 1, 1));
        }
    }

    private static void promise4Loss() {
        Check.sentence("IllegalArgumentException: loss is not 0 .. 10000.");
        SawGrids saw = new SawGrids(4, 0);
        for (int wild : Logs.outside(0, 10000)) {
            Check.noArgument("loss " + wild, () -> saw.knot(0, 0, wild));
        }
        Check.no("no knot came of it", saw.knot(0, 0, 0));
        Check.yes("loss 1", saw.knot(0, 0, 1));
        Check.yes("loss 9999", saw.knot(0, 0, 9999));
        Check.yes("loss 10000", saw.knot(0, 0, 10000));
        Check.yes("loss 0", saw.knot(0, 0, 0));
    }

    private static void promise4IndexFirst() {
        Check.sentence("of several exceptions the one named first is thrown");
        SawGrids saw = new SawGrids(4, 0);
        Check.noIndex("x and loss", () -> saw.knot(4, 0, -1));
        Check.noIndex("y and loss", () -> saw.knot(0, -1, 10001));
    }

    private static void promise5Number() {
        Check.sentence("A SIZE more: its number.");
        SawGrids saw = new SawGrids(2, 0);
        for (int k = 0; k < 8; k++) {
            Check.same("number of a size", saw.size(1, 1, 1, 1), k);
            int next = k + 1;
            Check.yes("it is there", saw.may(k, 0, 0, 0));
            Check.noIndex("the next is not", () -> saw.may(next, 0, 0, 0));
        }
    }

    private static void promise5Thick() {
        Check.sentence("IllegalArgumentException: thick or wide is not 1 .. 20");
        SawGrids saw = new SawGrids(20, 0);
        for (int wild : Logs.outside(1, 20)) {
            Check.noArgument("thick " + wild, () -> saw.size(wild, 1, 1, 1));
        }
        Check.noIndex("no size came of it", () -> saw.may(0, 0, 0, 0));
        Check.same("thick 1", saw.size(1, 5, 1, 400), 0);
        Check.same("thick 20", saw.size(20, 5, 1, 400), 1);
        Check.yes("thick 1 in the last row", saw.may(0, 0, 19, 0));
        Check.yes("thick 20 in the first row", saw.may(1, 0, 0, 0));
        Check.no("thick 20 in the second", saw.may(1, 0, 1, 0));
    }

    private static void promise5Wide() {
        Check.sentence("IllegalArgumentException: thick or wide is not 1 .. 20");
        SawGrids saw = new SawGrids(20, 0);
        for (int wild : Logs.outside(1, 20)) {
            Check.noArgument("wide " + wild, () -> saw.size(1, wild, 1, 1));
        }
        Check.noIndex("no size came of it", () -> saw.may(0, 0, 0, 0));
        Check.same("wide 1", saw.size(5, 1, 1, 400), 0);
        Check.same("wide 20", saw.size(5, 20, 1, 400), 1);
        Check.yes("wide 1 in the last column", saw.may(0, 19, 0, 0));
        Check.yes("wide 20 in the first column", saw.may(1, 0, 0, 0));
        Check.no("wide 20 in the second", saw.may(1, 1, 0, 0));
        // A size may be larger than the log: it is told, and no board comes of it.
        SawGrids small = Logs.whole(1, 0);
        Check.same("larger than the log", small.size(20, 20, 9, 400), 0);
        Check.same("no board of it", small.run(), 0);
    }

    private static void promise5Worth() {
        Check.sentence("worth not 0 .. 100000");
        SawGrids saw = Logs.whole(1, 0);
        for (int wild : Logs.outside(0, 100000)) {
            Check.noArgument("worth " + wild, () -> saw.size(1, 1, wild, 1));
        }
        Check.noIndex("no size came of it", () -> saw.may(0, 0, 0, 0));
        Check.same("worth 0", saw.size(1, 1, 0, 0), 0);
        Check.same("sum with worth 0", saw.worth(0), 0);
        Check.same("worth 1", saw.size(1, 1, 1, 0), 1);
        Check.same("sum with worth 1", saw.worth(0), 1);
        Check.same("worth 100000", saw.size(1, 1, 100000, 0), 2);
        Check.same("sum with worth 100000", saw.worth(0), 100000);
    }

    private static void promise5Wane() {
        Check.sentence("or wane not 0 .. 400");
        SawGrids saw = new SawGrids(20, 0);
        for (int wild : Logs.outside(0, 400)) {
            Check.noArgument("wane " + wild, () -> saw.size(1, 1, 1, wild));
        }
        Check.noIndex("no size came of it", () -> saw.may(0, 0, 0, 0));
        Check.same("wane 0", saw.size(20, 20, 1, 0), 0);
        Check.same("wane 399", saw.size(20, 20, 1, 399), 1);
        Check.same("wane 400", saw.size(20, 20, 1, 400), 2);
        Check.no("wane 399 of 400 bare cells", saw.may(1, 0, 0, 0));
        Check.yes("wane 400 of 400 bare cells", saw.may(2, 0, 0, 0));
        saw.cell(0, 19, 19, true);
        saw.cell(1, 19, 19, true);
        Check.yes("wane 399 of 399 bare cells", saw.may(1, 0, 0, 0));
        Check.no("wane 0 of 399 bare cells", saw.may(0, 0, 0, 0));
    }

    private static void promise5ThereAreEight() {
        Check.sentence("IllegalStateException: there are 8.");
        SawGrids saw = Logs.whole(2, 0);
        for (int k = 0; k < 8; k++) {
            Check.same("number of a size", saw.size(1, 1, k, 0), k);
        }
        Check.noState("a ninth size", () -> saw.size(1, 1, 50, 0));
        Check.noState("a ninth size again", () -> saw.size(20, 20, 100000, 400));
        Check.yes("the eighth is there", saw.may(7, 0, 0, 0));
        Check.noIndex("the ninth is not", () -> saw.may(8, 0, 0, 0));
        Check.same("the eighth is sawn", saw.worth(0), 28);
        Check.same("boards of it", saw.run(), 4);
        Check.same("its number", saw.board(3, 0), 7);
    }

    private static void promise5ArgumentFirst() {
        Check.sentence("of several exceptions the one named first is thrown");
        SawGrids saw = new SawGrids(2, 0);
        for (int k = 0; k < 8; k++) {
            saw.size(1, 1, 1, 1);
        }
        Check.noArgument("ninth, thick", () -> saw.size(0, 1, 1, 1));
        Check.noArgument("ninth, wide", () -> saw.size(1, 21, 1, 1));
        Check.noArgument("ninth, worth", () -> saw.size(1, 1, 100001, 1));
        Check.noArgument("ninth, wane", () -> saw.size(1, 1, 1, -1));
    }

    private static void promise13Wood() {
        Check.sentence("How many cells are WOOD.");
        SawGrids saw = new SawGrids(4, 0);
        saw.span(0, 0, 0, 4);
        Check.same("in at end 0 alone", saw.wood(), 0);
        saw.span(1, 0, 1, 3);
        saw.span(1, 1, 0, 4);
        Check.same("in at both", saw.wood(), 2);
        saw.cell(1, 3, 0, true);
        Check.same("one more", saw.wood(), 3);
        saw.cell(0, 1, 0, false);
        Check.same("one less", saw.wood(), 2);
        saw.cell(0, 1, 0, false);
        Check.same("not twice", saw.wood(), 2);
        saw.knot(2, 0, 10000);
        Check.same("a knot is wood", saw.wood(), 2);
    }

    private static void promise13Edges() {
        Check.sentence("it is WOOD if it is IN at both");
        for (int side : SIDES) {
            Check.same("none of side " + side, new SawGrids(side, 0).wood(), 0);
            SawGrids saw = Logs.whole(side, 0);
            Check.same("all of side " + side, saw.wood(), side * side);
            saw.cell(1, side - 1, 0, false);
            Check.same("all but one of side " + side, saw.wood(), side * side - 1);
            saw.cell(0, side - 1, 0, false);
            Check.same("not in at either", saw.wood(), side * side - 1);
            saw.cell(1, side - 1, 0, true);
            Check.same("in at end 1 alone", saw.wood(), side * side - 1);
            saw.cell(0, side - 1, 0, true);
            Check.same("all of side " + side + " again", saw.wood(), side * side);
        }
    }

    private static void promise13Always() {
        Check.sentence("Promise 13: wood");
        SawGrids saw = Logs.whole(3, 1);
        Check.same("unsawn", saw.wood(), 9);
        saw.size(1, 1, 1, 0);
        saw.run();
        Check.same("sawn", saw.wood(), 9);
        Check.same("wood tells nothing", saw.all(3), 4);
        saw.cell(0, 0, 0, false);
        Check.same("told since", saw.wood(), 8);
        Check.noState("wood saws nothing", () -> saw.all(3));
    }
}
