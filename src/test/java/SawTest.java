/** Promises 6 to 12: what is sawn, and what is asked of it, on logs that were worked out by hand. */
public final class SawTest {
    public static void main(String[] args) {
        promise6Run();
        promise6FewestBoards();
        promise6SlabBeforeNone();
        promise6ThinnerSlabFirst();
        promise6BoardBeforeNone();
        promise6LesserSizeFirst();
        promise6TheLyingOneOfTwo();
        promise6FewerBoardsTurned();
        promise6KerfBetweenSlabs();
        promise7Board();
        promise7Turned();
        promise7KnotsAndWane();
        promise7Wrong();
        promise8All();
        promise8Wrong();
        promise9Worth();
        promise10Yields();
        promise10Wrong();
        promise11May();
        promise11Wrong();
        promise12Apart();
        promise12Wrong();
        theGreatestSums();
        Check.end("SawTest");
    }

    private static void promise6Run() {
        SawGrids saw = new SawGrids(4, 0);
        Check.same("no sizes", saw.run(), 0);
        saw.size(1, 1, 5, 0);
        Check.same("no wood", saw.run(), 0);
        saw.cell(0, 3, 1, true);
        Check.same("wood at one end", saw.run(), 0);
        saw.cell(1, 3, 1, true);
        Check.same("one cell", saw.run(), 1);
        Logs.isBoard("one cell", saw, 0, 0, 3, 1, 1, 1, 5, 0);
        saw.knot(3, 1, 5);
        Check.same("worth nothing", saw.run(), 0);
        saw.knot(3, 1, 4);
        Check.same("worth 1", saw.run(), 1);
        SawGrids small = Logs.whole(3, 0);
        small.size(4, 1, 9, 400);
        small.size(1, 4, 9, 400);
        Check.same("too large for the grid", small.run(), 0);
        SawGrids free = Logs.whole(3, 0);
        free.size(1, 1, 0, 0);
        Check.same("boards of no worth", free.run(), 0);
        Logs.isAll("boards of no worth", free, 0, 0, 0, 0);
    }

    private static void promise6FewestBoards() {
        SawGrids saw = Logs.whole(4, 0);
        saw.size(1, 1, 1, 0);
        saw.size(1, 2, 2, 0);
        saw.size(4, 4, 16, 0);
        saw.size(2, 4, 8, 0);
        Check.same("fewest boards", saw.run(), 1);
        Logs.isBoard("fewest boards", saw, 0, 2, 0, 0, 4, 4, 16, 0);
    }

    private static void promise6SlabBeforeNone() {
        SawGrids saw = Logs.whole(5, 1);
        saw.size(2, 5, 7, 0);
        Check.same("two slabs", saw.run(), 2);
        Check.same("first slab", saw.board(0, 2), 0);
        Check.same("second slab", saw.board(1, 2), 3);
        SawGrids loose = Logs.whole(5, 0);
        loose.size(2, 5, 7, 0);
        loose.run();
        Check.same("first slab as high as it can be", loose.board(0, 2), 0);
        Check.same("second slab too", loose.board(1, 2), 2);
    }

    private static void promise6ThinnerSlabFirst() {
        SawGrids saw = Logs.whole(3, 0);
        saw.size(2, 3, 7, 0);
        saw.size(1, 3, 7, 0);
        saw.cell(0, 0, 1, false);
        Check.same("rows 0 and 2", saw.run(), 2);
        SawGrids mixed = Logs.whole(3, 0);
        mixed.size(2, 3, 20, 0);
        mixed.size(1, 3, 9, 0);
        Check.same("thin and thick", mixed.run(), 2);
        Logs.isBoard("the thinner first", mixed, 0, 1, 0, 0, 3, 1, 9, 0);
        Logs.isBoard("the thicker then", mixed, 1, 0, 0, 1, 3, 2, 20, 0);
        SawGrids same = Logs.whole(3, 4);
        same.size(3, 3, 9, 0);
        same.size(2, 3, 9, 0);
        same.run();
        Logs.isBoard("the thinner of one", same, 0, 1, 0, 0, 3, 2, 9, 0);
    }

    private static void promise6BoardBeforeNone() {
        SawGrids saw = new SawGrids(7, 1);
        saw.span(0, 3, 0, 7);
        saw.span(1, 3, 0, 7);
        saw.size(1, 2, 5, 0);
        Check.same("two boards in seven columns", saw.run(), 2);
        Check.same("first board", saw.board(0, 1), 0);
        Check.same("second board", saw.board(1, 1), 3);
        Check.same("the row", saw.board(1, 2), 3);
    }

    private static void promise6LesserSizeFirst() {
        SawGrids saw = new SawGrids(6, 1);
        saw.span(0, 0, 0, 6);
        saw.span(1, 0, 0, 6);
        saw.size(1, 3, 8, 0);
        saw.size(1, 2, 8, 0);
        Check.same("two boards of six columns", saw.run(), 2);
        Check.same("the lesser size first", saw.board(0, 0), 0);
        Check.same("its place", saw.board(0, 1), 0);
        Check.same("the other one then", saw.board(1, 0), 1);
        Check.same("its place", saw.board(1, 1), 4);
        SawGrids twins = Logs.whole(2, 0);
        twins.size(2, 2, 0, 0);
        twins.size(2, 2, 6, 0);
        twins.size(2, 2, 6, 0);
        twins.run();
        Check.same("the lesser twin", twins.board(0, 0), 1);
    }

    private static void promise6TheLyingOneOfTwo() {
        SawGrids saw = Logs.whole(6, 0);
        saw.size(2, 3, 5, 0);
        Check.same("as good turned", saw.run(), 6);
        Logs.isAll("as good turned", saw, 30, 0, 3, 6);
    }

    private static void promise6FewerBoardsTurned() {
        SawGrids saw = new SawGrids(4, 0);
        for (int y = 0; y < 4; y++) {
            saw.cell(0, 1, y, true);
            saw.cell(1, 1, y, true);
        }
        saw.size(1, 1, 3, 0);
        saw.size(1, 4, 12, 0);
        Check.same("worth lying", saw.worth(0), 12);
        Check.same("worth turned", saw.worth(1), 12);
        Check.same("fewer boards turned", saw.run(), 1);
        Logs.isAll("fewer boards turned", saw, 12, 1, 1, 1);
        Logs.isBoard("fewer boards turned", saw, 0, 1, 1, 0, 1, 4, 12, 0);
    }

    private static void promise6KerfBetweenSlabs() {
        for (int kerf = 0; kerf <= 4; kerf++) {
            SawGrids saw = Logs.whole(9, kerf);
            saw.size(1, 9, 2, 0);
            int slabs = (9 + kerf) / (1 + kerf);
            Check.same("slabs with kerf " + kerf, saw.run(), slabs);
            for (int k = 0; k < slabs; k++) {
                Check.same("row of slab " + k + " with kerf " + kerf, saw.board(k, 2), k * (1 + kerf));
            }
        }
        // No kerf is lost behind the last slab.
        SawGrids last = Logs.whole(5, 4);
        last.size(5, 5, 2, 0);
        Check.same("a slab to the last row", last.run(), 1);
    }

    private static void promise7Board() {
        SawGrids saw = Logs.whole(6, 1);
        saw.size(2, 6, 10, 0);
        saw.size(3, 2, 8, 0);
        Check.same("boards", saw.run(), 3);
        Logs.isAll("boards", saw, 26, 0, 2, 3);
        Logs.isBoard("thin slab", saw, 0, 0, 0, 0, 6, 2, 10, 0);
        Logs.isBoard("thick slab", saw, 1, 1, 0, 3, 2, 3, 8, 0);
        Logs.isBoard("thick slab", saw, 2, 1, 3, 3, 2, 3, 8, 0);
    }

    /** Wood two columns wide and five rows high is sawn turned, beginning at its left. */
    private static void promise7Turned() {
        SawGrids saw = new SawGrids(6, 1);
        for (int y = 1; y < 6; y++) {
            saw.span(0, y, 2, 5);
            saw.span(1, y, 2, 5);
        }
        saw.size(1, 2, 4, 0);
        saw.size(1, 5, 30, 0);
        Check.same("turned", saw.run(), 2);
        Logs.isAll("turned", saw, 60, 1, 2, 2);
        Logs.isBoard("turned", saw, 0, 1, 2, 1, 1, 5, 30, 0);
        Logs.isBoard("turned", saw, 1, 1, 4, 1, 1, 5, 30, 0);
        saw.knot(4, 3, 25);
        Check.same("turned with a knot", saw.run(), 3);
        Logs.isAll("turned with a knot", saw, 38, 1, 2, 3);
        Logs.isBoard("left slab", saw, 0, 1, 2, 1, 1, 5, 30, 0);
        Logs.isBoard("right slab", saw, 1, 0, 4, 1, 1, 2, 4, 0);
        Logs.isBoard("right slab", saw, 2, 0, 4, 4, 1, 2, 4, 0);
    }

    private static void promise7KnotsAndWane() {
        SawGrids saw = new SawGrids(3, 0);
        saw.span(0, 0, 0, 3);
        saw.span(1, 0, 0, 3);
        saw.span(0, 1, 1, 3);
        saw.span(1, 1, 1, 3);
        saw.size(2, 3, 100, 1);
        saw.knot(0, 0, 10);
        saw.knot(1, 1, 20);
        saw.knot(0, 1, 5);
        saw.knot(0, 2, 40);
        Check.same("wane", saw.run(), 1);
        Logs.isBoard("a knot that is not in wood counts too", saw, 0, 0, 0, 0, 3, 2, 65, 1);
        saw.cell(1, 2, 0, false);
        Check.same("too much wane", saw.run(), 0);
        saw.size(2, 3, 34, 2);
        Check.same("less than the knots", saw.run(), 0);
        saw.size(2, 3, 36, 2);
        Check.same("just more than the knots", saw.run(), 1);
        Logs.isBoard("more wane", saw, 0, 2, 0, 0, 3, 2, 1, 2);
    }

    private static void promise7Wrong() {
        SawGrids saw = Logs.whole(3, 0);
        saw.size(1, 3, 9, 0);
        for (int wild : Logs.WILD) {
            Check.noState("unsawn board " + wild, () -> saw.board(wild, wild));
        }
        Check.same("boards", saw.run(), 3);
        for (int wild : Logs.WILD) {
            if (wild < 0 || wild > 2) {
                Check.noIndex("board " + wild, () -> saw.board(wild, 0));
            }
            if (wild < 0 || wild > 6) {
                Check.noIndex("what " + wild, () -> saw.board(0, wild));
            }
        }
        Check.noIndex("board 3", () -> saw.board(3, 0));
        Check.noIndex("what 7", () -> saw.board(2, 7));
        saw.knot(0, 0, 9);
        saw.knot(1, 1, 9);
        saw.knot(2, 2, 8);
        Check.same("fewer boards than before", saw.run(), 1);
        Check.noIndex("an old board", () -> saw.board(1, 0));
    }

    private static void promise8All() {
        SawGrids saw = Logs.whole(4, 0);
        saw.size(2, 2, 6, 0);
        saw.knot(0, 0, 2);
        saw.run();
        Logs.isAll("two slabs of two", saw, 22, 0, 2, 4);
        SawGrids none = new SawGrids(4, 0);
        none.run();
        Logs.isAll("nothing", none, 0, 0, 0, 0);
    }

    private static void promise8Wrong() {
        SawGrids saw = new SawGrids(4, 0);
        for (int wild : Logs.WILD) {
            Check.noState("unsawn all " + wild, () -> saw.all(wild));
        }
        saw.run();
        for (int wild : Logs.WILD) {
            if (wild < 0 || wild > 3) {
                Check.noIndex("all " + wild, () -> saw.all(wild));
            }
        }
        Check.noIndex("all 4", () -> saw.all(4));
    }

    private static void promise9Worth() {
        SawGrids saw = new SawGrids(5, 0);
        saw.span(0, 2, 0, 5);
        saw.span(1, 2, 0, 5);
        saw.size(1, 5, 50, 0);
        saw.size(1, 1, 3, 0);
        Check.same("lying, unsawn", saw.worth(0), 50);
        Check.same("turned, unsawn", saw.worth(1), 15);
        Check.noState("worth saws nothing", () -> saw.all(0));
        saw.run();
        Check.same("turned, sawn lying", saw.worth(1), 15);
        Logs.isAll("worth changes nothing", saw, 50, 0, 1, 1);
        Logs.isBoard("worth changes nothing", saw, 0, 0, 0, 2, 5, 1, 50, 0);
        saw.knot(2, 2, 36);
        Check.same("lying, told since", saw.worth(0), 14);
        Check.same("turned, told since", saw.worth(1), 12);
        for (int wild : Logs.WILD) {
            if (wild < 0 || wild > 1) {
                Check.noIndex("worth of turn " + wild, () -> saw.worth(wild));
            }
        }
    }

    private static void promise10Yields() {
        SawGrids saw = new SawGrids(6, 0);
        saw.size(1, 4, 5, 0);
        isYield("no wood", saw, 0, 1);
        saw.span(0, 0, 0, 6);
        saw.span(1, 0, 0, 3);
        isYield("no boards", saw, 0, 1);
        saw.span(1, 0, 3, 6);
        isYield("4 of 6", saw, 2, 3);
        saw.cell(1, 5, 0, false);
        isYield("4 of 5", saw, 4, 5);
        saw.cell(1, 4, 0, false);
        isYield("4 of 4", saw, 1, 1);
        SawGrids waney = new SawGrids(4, 0);
        waney.size(4, 4, 5, 16);
        isYield("a board without wood", waney, 0, 1);
        Check.same("a board without wood", waney.all(3), 1);
        waney.span(0, 0, 0, 3);
        waney.span(1, 0, 0, 3);
        isYield("more board than wood", waney, 16, 3);
    }

    private static void isYield(String what, SawGrids saw, int numerator, int denominator) {
        saw.run();
        Check.same("numerator, " + what, saw.yields(0), numerator);
        Check.same("denominator, " + what, saw.yields(1), denominator);
    }

    private static void promise10Wrong() {
        SawGrids saw = new SawGrids(6, 0);
        for (int wild : Logs.WILD) {
            Check.noState("unsawn part " + wild, () -> saw.yields(wild));
        }
        saw.run();
        for (int wild : Logs.WILD) {
            if (wild < 0 || wild > 1) {
                Check.noIndex("part " + wild, () -> saw.yields(wild));
            }
        }
    }

    private static void promise11May() {
        SawGrids saw = Logs.whole(5, 3);
        saw.size(2, 4, 0, 1);
        Check.yes("lying, first place", saw.may(0, 0, 0, 0));
        Check.yes("lying, last place", saw.may(0, 1, 3, 0));
        Check.no("lying, too far right", saw.may(0, 2, 3, 0));
        Check.no("lying, too far down", saw.may(0, 1, 4, 0));
        Check.yes("turned, last place", saw.may(0, 3, 1, 1));
        Check.no("turned, too far right", saw.may(0, 4, 1, 1));
        Check.no("turned, too far down", saw.may(0, 3, 2, 1));
        saw.cell(0, 2, 2, false);
        Check.yes("one wane lying", saw.may(0, 0, 1, 0));
        saw.cell(1, 2, 1, false);
        Check.no("two wanes lying", saw.may(0, 0, 1, 0));
        Check.yes("one wane in other rows", saw.may(0, 0, 2, 0));
        Check.no("two wanes turned", saw.may(0, 2, 0, 1));
        Check.yes("no wane turned", saw.may(0, 3, 0, 1));
        saw.knot(4, 0, 10000);
        Check.yes("a knot hinders nothing", saw.may(0, 3, 0, 1));
    }

    private static void promise11Wrong() {
        SawGrids saw = Logs.whole(5, 0);
        saw.size(1, 1, 1, 0);
        saw.size(1, 1, 1, 400);
        for (int wild : Logs.WILD) {
            if (wild < 0 || wild > 1) {
                Check.noIndex("may of size " + wild, () -> saw.may(wild, 0, 0, 0));
                Check.noIndex("may of turn " + wild, () -> saw.may(0, 0, 0, wild));
                Check.noIndex("may of turn " + wild + " off the grid", () -> saw.may(0, -1, 9, wild));
            }
            if (wild < 0 || wild > 4) {
                for (int turn = 0; turn < 2; turn++) {
                    Check.no("may at x " + wild, saw.may(1, wild, 0, turn));
                    Check.no("may at y " + wild, saw.may(1, 0, wild, turn));
                    Check.no("may at x and y " + wild, saw.may(1, wild, wild, turn));
                }
            }
        }
        Check.noIndex("a size that was not told", () -> saw.may(2, 0, 0, 0));
    }

    private static void promise12Apart() {
        for (int kerf = 0; kerf <= 4; kerf++) {
            SawGrids saw = Logs.whole(9, kerf);
            saw.size(2, 2, 3, 0);
            int boards = saw.run();
            for (int a = 0; a < boards; a++) {
                for (int b = a; b < boards; b++) {
                    Check.same("apart " + a + " " + b + " with kerf " + kerf, saw.apart(a, b) ? 1 : 0, a == b ? 0 : 1);
                    Check.same("apart " + b + " " + a + " with kerf " + kerf, saw.apart(b, a) ? 1 : 0, a == b ? 0 : 1);
                }
            }
        }
    }

    private static void promise12Wrong() {
        SawGrids saw = Logs.whole(3, 0);
        saw.size(1, 3, 9, 0);
        for (int wild : Logs.WILD) {
            Check.noState("unsawn apart " + wild, () -> saw.apart(wild, wild));
        }
        saw.run();
        for (int wild : Logs.WILD) {
            if (wild < 0 || wild > 2) {
                Check.noIndex("apart " + wild + " 0", () -> saw.apart(wild, 0));
                Check.noIndex("apart 0 " + wild, () -> saw.apart(0, wild));
            }
        }
        Check.noIndex("apart 0 3", () -> saw.apart(0, 3));
    }

    private static void theGreatestSums() {
        SawGrids saw = Logs.whole(20, 0);
        saw.size(1, 1, 100000, 0);
        Check.same("most boards", saw.run(), 400);
        Logs.isAll("greatest sum", saw, 40000000, 0, 20, 400);
        Check.same("greatest sum turned", saw.worth(1), 40000000);
        Logs.isBoard("last board", saw, 399, 0, 19, 19, 1, 1, 100000, 0);
        SawGrids knotty = Logs.whole(20, 0);
        for (int k = 0; k < 400; k++) {
            knotty.knot(k % 20, k / 20, 10000);
        }
        knotty.size(20, 20, 100000, 0);
        knotty.size(2, 5, 100000, 0);
        knotty.size(3, 3, 100000, 0);
        Check.same("greatest knots", knotty.run(), 36);
        Logs.isAll("greatest knots", knotty, 360000, 0, 6, 36);
    }
}
