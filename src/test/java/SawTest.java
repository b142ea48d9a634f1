/** Promises 6 to 12: what is sawn, and what is asked of it; a test for each sentence with an edge. */
public final class SawTest {
    public static void main(String[] args) {
        Check.each(
            SawTest::promise6HowMany,
            SawTest::promise6None,
            SawTest::promise6Most,
            SawTest::promise6Again,
            SawTest::promise7SlabBySlab,
            SawTest::promise7FromItsBeginOn,
            SawTest::promise7EachWhat,
            SawTest::promise7AlongXAndY,
            SawTest::promise7Worth,
            SawTest::promise7NotWood,
            SawTest::promise7Turned,
            SawTest::promise7StateFirst,
            SawTest::promise7NoSuchBoard,
            SawTest::promise7NoSuchWhat,
            SawTest::promise7NoBoardAtAll,
            SawTest::promise8Each,
            SawTest::promise8Nothing,
            SawTest::promise8Most,
            SawTest::promise8StateFirst,
            SawTest::promise8NoSuchWhat,
            SawTest::promise9EachTurn,
            SawTest::promise9WhateverWasSawn,
            SawTest::promise9Most,
            SawTest::promise9NoSuchTurn,
            SawTest::promise10Parts,
            SawTest::promise10WithoutWood,
            SawTest::promise10NoBoards,
            SawTest::promise10MoreThanWood,
            SawTest::promise10StateFirst,
            SawTest::promise10NoSuchPart,
            SawTest::promise11OnTheGrid,
            SawTest::promise11OffTheGrid,
            SawTest::promise11Wane,
            SawTest::promise11Whenever,
            SawTest::promise11NoSuchSize,
            SawTest::promise11NoSuchTurn,
            SawTest::promise12Apart,
            SawTest::promise12Turned,
            SawTest::promise12TheSame,
            SawTest::promise12StateFirst,
            SawTest::promise12NoSuchBoard);
        Check.end("SawTest");
    }

    private static void promise6HowMany() {
        Check.sentence("SAWN: how many boards.");
        SawGrids saw = new SawGrids(4, 0);
        saw.size(1, 1, 5, 0);
        saw.cell(0, 3, 1, true);
        Check.same("wood at one end", saw.run(), 0);
        saw.cell(1, 3, 1, true);
        Check.same("one cell", saw.run(), 1);
        Logs.isBoard("one cell", saw, 0, 0, 3, 1, 1, 1, 5, 0);
        Logs.addWood(saw, 0, 0, 4);
        Check.same("five cells", saw.run(), 5);
        Check.same("as all(3) says", saw.all(3), 5);
        saw.knot(3, 1, 5);
        Check.same("one worth nothing", saw.run(), 4);
        saw.knot(3, 1, 4);
        Check.same("worth 1", saw.run(), 5);
    }

    private static void promise6None() {
        Check.sentence("SAWN: how many boards.");
        SawGrids saw = new SawGrids(4, 0);
        Check.same("no sizes, no wood", saw.run(), 0);
        saw.size(1, 1, 5, 0);
        Check.same("no wood", saw.run(), 0);
        SawGrids whole = Logs.whole(4, 0);
        Check.same("no sizes", whole.run(), 0);
        whole.size(1, 1, 0, 0);
        Check.same("no worth", whole.run(), 0);
        whole.size(5, 1, 9, 400);
        whole.size(1, 5, 9, 400);
        Check.same("too large for the grid", whole.run(), 0);
        SawGrids least = new SawGrids(1, 4);
        Check.same("the least log", least.run(), 0);
        least.size(1, 1, 1, 1);
        Check.same("the least log without wood", least.run(), 1);
    }

    private static void promise6Most() {
        Check.sentence("SAWN: how many boards.");
        for (int side = 1; side <= 20; side++) {
            SawGrids saw = Logs.whole(side, 0);
            saw.size(1, 1, 100000, 0);
            Check.same("boards of side " + side, saw.run(), side * side);
            int last = side * side - 1;
            Logs.isBoard("the last one", saw, last, 0, side - 1, side - 1, 1, 1, 100000, 0);
            Check.noIndex("one more", () -> saw.board(last + 1, 0));
        }
    }

    /** What is sawn is of the log as it is told then, and nothing is left of the pattern before. */
    private static void promise6Again() {
        Check.sentence("SAWN: how many boards.");
        SawGrids saw = Logs.whole(3, 0);
        saw.size(1, 3, 9, 0);
        Check.same("three rows", saw.run(), 3);
        saw.knot(0, 0, 9);
        saw.knot(1, 1, 9);
        saw.knot(2, 2, 8);
        Check.same("fewer boards than before", saw.run(), 1);
        Logs.isAll("fewer boards than before", saw, 1, 0, 1, 1);
        Check.noIndex("an old board", () -> saw.board(1, 0));
        saw.size(3, 1, 9, 0);
        Check.same("the same log with another size", saw.run(), 1);
        saw.cell(0, 2, 2, false);
        Check.same("without the last cell", saw.run(), 0);
        Logs.isAll("without the last cell", saw, 0, 0, 0, 0);
        saw.cell(0, 2, 2, true);
        saw.knot(0, 0, 0);
        saw.knot(1, 1, 0);
        saw.knot(2, 2, 0);
        Check.same("as at first", saw.run(), 3);
        Logs.isAll("as at first", saw, 27, 0, 3, 3);
    }

    private static void promise7SlabBySlab() {
        Check.sentence("Of board k (slab by slab, in each from its begin on)");
        SawGrids saw = Logs.whole(6, 1);
        saw.size(2, 6, 10, 0);
        saw.size(3, 2, 8, 0);
        Check.same("boards", saw.run(), 3);
        Logs.isAll("boards", saw, 26, 0, 2, 3);
        Logs.isBoard("thin slab", saw, 0, 0, 0, 0, 6, 2, 10, 0);
        Logs.isBoard("thick slab", saw, 1, 1, 0, 3, 2, 3, 8, 0);
        Logs.isBoard("thick slab", saw, 2, 1, 3, 3, 2, 3, 8, 0);
    }

    private static void promise7FromItsBeginOn() {
        Check.sentence("in each from its begin on");
        SawGrids saw = Logs.whole(5, 1);
        saw.size(1, 1, 4, 0);
        Check.same("nine boards", saw.run(), 9);
        for (int k = 0; k < 9; k++) {
            Logs.isBoard("three by three", saw, k, 0, k % 3 * 2, k / 3 * 2, 1, 1, 4, 0);
        }
    }

    private static void promise7EachWhat() {
        Check.sentence("SIZE (what = 0), least x (1), least y (2), cells along x (3), along y (4), what it is worth (5), "
            + "cells that are not WOOD (6)");
        SawGrids saw = Logs.row(20, 0, 18, 3, 19);
        Logs.addWood(saw, 19, 3, 18);
        saw.size(20, 20, 1, 0);
        saw.size(2, 16, 70, 1);
        saw.knot(5, 19, 12);
        Check.same("one board", saw.run(), 1);
        int[] due = {1, 3, 18, 16, 2, 58, 1};
        for (int what = 0; what < due.length; what++) {
            Check.same("what " + what, saw.board(0, what), due[what]);
        }
    }

    private static void promise7AlongXAndY() {
        Check.sentence("cells along x (3), along y (4)");
        SawGrids lying = Logs.row(7, 0, 0, 0, 7);
        lying.size(1, 7, 3, 0);
        lying.run();
        Check.same("lying, along x", lying.board(0, 3), 7);
        Check.same("lying, along y", lying.board(0, 4), 1);
        SawGrids turned = new SawGrids(7, 0);
        for (int y = 0; y < 7; y++) {
            Logs.addWood(turned, y, 6, 7);
        }
        turned.size(1, 7, 3, 0);
        turned.run();
        Check.same("turned, along x", turned.board(0, 3), 1);
        Check.same("turned, along y", turned.board(0, 4), 7);
    }

    private static void promise7Worth() {
        Check.sentence("what it is worth (5)");
        SawGrids saw = Logs.whole(2, 0);
        saw.size(1, 1, 10000, 0);
        saw.knot(0, 0, 10000);
        saw.knot(1, 0, 9999);
        saw.knot(0, 1, 1);
        Check.same("one is worth nothing and none", saw.run(), 3);
        Check.same("worth 1", saw.board(0, 5), 1);
        Check.same("worth 9999", saw.board(1, 5), 9999);
        Check.same("worth 10000", saw.board(2, 5), 10000);
        Check.same("sum", saw.all(0), 20000);
    }

    private static void promise7NotWood() {
        Check.sentence("cells that are not WOOD (6)");
        SawGrids saw = Logs.row(3, 0, 0, 0, 3);
        Logs.addWood(saw, 1, 1, 3);
        saw.size(2, 3, 100, 1);
        Check.same("wane", saw.run(), 1);
        Check.same("one of them", saw.board(0, 6), 1);
        saw.cell(1, 2, 0, false);
        Check.same("too much wane", saw.run(), 0);
        saw.size(2, 3, 100, 400);
        Check.same("much wane", saw.run(), 1);
        Logs.isBoard("much wane", saw, 0, 1, 0, 0, 3, 2, 100, 2);
        SawGrids bare = new SawGrids(20, 0);
        bare.size(20, 20, 1, 400);
        bare.run();
        Check.same("all of them", bare.board(0, 6), 400);
    }

    /** Wood three columns wide and five rows high is sawn turned, beginning at its left. */
    private static void promise7Turned() {
        Check.sentence("Turned (turn 1) x and y change places: slabs are columns, boards go down.");
        SawGrids saw = new SawGrids(6, 1);
        for (int y = 1; y < 6; y++) {
            Logs.addWood(saw, y, 2, 5);
        }
        saw.size(1, 2, 4, 0);
        saw.size(1, 5, 30, 0);
        Check.same("turned", saw.run(), 2);
        Logs.isAll("turned", saw, 60, 1, 2, 2);
        Logs.isBoard("turned", saw, 0, 1, 2, 1, 1, 5, 30, 0);
        Logs.isBoard("turned", saw, 1, 1, 4, 1, 1, 5, 30, 0);
        saw.knot(4, 3, 25);
        Check.same("turned with a knot", saw.run(), 3);
        Logs.isAll("turned with a knot", saw, 38, 1, 2, 3);
        Logs.isBoard("left slab", saw, 0, 1, 2, 1, 1, 5, 30, 0);
        Logs.isBoard("right slab", saw, 1, 0, 4, 1, 1, 2, 4, 0);
        Logs.isBoard("right slab", saw, 2, 0, 4, 4, 1, 2, 4, 0);
    }

    private static void promise7StateFirst() {
        Check.sentence("IllegalStateException (first); IndexOutOfBoundsException.");
        SawGrids saw = Logs.whole(3, 0);
        for (int wild : Logs.outside(0, 6)) {
            Check.noState("unsawn board " + wild, () -> saw.board(wild, 0));
            Check.noState("unsawn what " + wild, () -> saw.board(0, wild));
            Check.noState("unsawn both " + wild, () -> saw.board(wild, wild));
        }
    }

    private static void promise7NoSuchBoard() {
        Check.sentence("IndexOutOfBoundsException: there is no such cell, end, size, board");
        SawGrids saw = Logs.whole(3, 0);
        saw.size(1, 3, 9, 0);
        Check.same("boards", saw.run(), 3);
        for (int wild : Logs.outside(0, 2)) {
            for (int what = 0; what <= 6; what++) {
                int one = what;
                Check.noIndex("board " + wild + ", what " + one, () -> saw.board(wild, one));
            }
        }
        Check.same("the last board", saw.board(2, 2), 2);
    }

    private static void promise7NoSuchWhat() {
        Check.sentence("IndexOutOfBoundsException: there is no such cell, end, size, board, what");
        SawGrids saw = Logs.whole(3, 0);
        saw.size(1, 3, 9, 0);
        saw.run();
        for (int wild : Logs.outside(0, 6)) {
            Check.noIndex("first board, what " + wild, () -> saw.board(0, wild));
            Check.noIndex("last board, what " + wild, () -> saw.board(2, wild));
            Check.noIndex("no board, what " + wild, () -> saw.board(3, wild));
        }
    }

    private static void promise7NoBoardAtAll() {
        Check.sentence("IndexOutOfBoundsException: there is no such cell, end, size, board");
        SawGrids saw = new SawGrids(1, 0);
        saw.run();
        for (int what = 0; what <= 6; what++) {
            int one = what;
            Check.noIndex("board 0 of none, what " + one, () -> saw.board(0, one));
            Check.noIndex("board -1 of none, what " + one, () -> saw.board(-1, one));
        }
    }

    private static void promise8Each() {
        Check.sentence("The sum of what boards are worth (what = 0), the turn (1), how many slabs (2), how many boards (3).");
        SawGrids saw = Logs.whole(4, 0);
        saw.size(2, 2, 6, 0);
        saw.knot(0, 0, 2);
        saw.run();
        Logs.isAll("two slabs of two", saw, 22, 0, 2, 4);
        SawGrids turned = new SawGrids(8, 1);
        for (int y = 0; y < 8; y++) {
            Logs.addWood(turned, y, 1, 6);
        }
        turned.size(1, 8, 40, 0);
        turned.knot(3, 4, 1);
        turned.run();
        Logs.isAll("three slabs of one, turned", turned, 119, 1, 3, 3);
    }

    private static void promise8Nothing() {
        Check.sentence("The sum of what boards are worth (what = 0), the turn (1), how many slabs (2), how many boards (3).");
        SawGrids saw = new SawGrids(4, 0);
        saw.run();
        Logs.isAll("nothing", saw, 0, 0, 0, 0);
        SawGrids turned = new SawGrids(2, 0);
        for (int y = 0; y < 2; y++) {
            Logs.addWood(turned, y, 0, 1);
        }
        turned.size(1, 2, 5, 0);
        turned.run();
        Logs.isAll("turned", turned, 5, 1, 1, 1);
        turned.cell(0, 0, 0, false);
        turned.run();
        Logs.isAll("nothing after a turned one", turned, 0, 0, 0, 0);
    }

    private static void promise8Most() {
        Check.sentence("The sum of what boards are worth (what = 0)");
        SawGrids saw = Logs.whole(20, 0);
        saw.size(1, 1, 100000, 0);
        saw.run();
        Logs.isAll("the greatest sum", saw, 40000000, 0, 20, 400);
        SawGrids knotty = Logs.whole(20, 0);
        for (int k = 0; k < 400; k++) {
            knotty.knot(k % 20, k / 20, 10000);
        }
        knotty.size(20, 20, 100000, 0);
        knotty.size(2, 5, 100000, 0);
        knotty.size(3, 3, 100000, 0);
        Check.same("the greatest losses", knotty.run(), 36);
        Logs.isAll("the greatest losses", knotty, 360000, 0, 6, 36);
    }

    private static void promise8StateFirst() {
        Check.sentence("IllegalStateException (first); IndexOutOfBoundsException.");
        SawGrids saw = new SawGrids(4, 0);
        for (int wild : Logs.outside(0, 3)) {
            Check.noState("unsawn all " + wild, () -> saw.all(wild));
        }
        for (int what = 0; what <= 3; what++) {
            int one = what;
            Check.noState("unsawn all " + one, () -> saw.all(one));
        }
    }

    private static void promise8NoSuchWhat() {
        Check.sentence("IndexOutOfBoundsException: there is no such cell, end, size, board, what");
        SawGrids saw = new SawGrids(4, 0);
        saw.run();
        for (int wild : Logs.outside(0, 3)) {
            Check.noIndex("all " + wild, () -> saw.all(wild));
        }
    }

    private static void promise9EachTurn() {
        Check.sentence("The greatest sum of a turn, 0 or 1");
        SawGrids saw = Logs.row(5, 0, 2, 0, 5);
        Check.same("lying, no sizes", saw.worth(0), 0);
        Check.same("turned, no sizes", saw.worth(1), 0);
        saw.size(1, 5, 50, 0);
        Check.same("lying, unsawn", saw.worth(0), 50);
        Check.same("turned, no place", saw.worth(1), 0);
        saw.size(1, 1, 3, 0);
        Check.same("lying", saw.worth(0), 50);
        Check.same("turned", saw.worth(1), 15);
        saw.knot(2, 2, 36);
        Check.same("lying, a knot", saw.worth(0), 14);
        Check.same("turned, a knot", saw.worth(1), 12);
        saw.knot(2, 2, 39);
        Check.same("lying, a greater knot", saw.worth(0), 12);
    }

    private static void promise9WhateverWasSawn() {
        Check.sentence("(whatever was SAWN)");
        SawGrids saw = Logs.row(5, 0, 2, 0, 5);
        saw.size(1, 5, 50, 0);
        saw.size(1, 1, 3, 0);
        Check.same("turned, unsawn", saw.worth(1), 15);
        Check.noState("worth saws nothing", () -> saw.all(0));
        saw.run();
        Check.same("the turn that was not sawn", saw.worth(1), 15);
        Logs.isAll("worth changes nothing", saw, 50, 0, 1, 1);
        Logs.isBoard("worth changes nothing", saw, 0, 0, 0, 2, 5, 1, 50, 0);
        Check.same("the turn that was sawn", saw.worth(0), 50);
        saw.cell(0, 0, 2, false);
        Check.same("lying, told since", saw.worth(0), 12);
        Check.same("turned, told since", saw.worth(1), 12);
        Check.noState("worth saws nothing", () -> saw.all(0));
    }

    private static void promise9Most() {
        Check.sentence("The greatest sum of a turn");
        SawGrids saw = Logs.whole(20, 0);
        saw.size(1, 1, 100000, 0);
        Check.same("lying", saw.worth(0), 40000000);
        Check.same("turned", saw.worth(1), 40000000);
        SawGrids least = Logs.whole(1, 4);
        least.size(1, 1, 1, 0);
        Check.same("least lying", least.worth(0), 1);
        Check.same("least turned", least.worth(1), 1);
    }

    private static void promise9NoSuchTurn() {
        Check.sentence("The greatest sum of a turn, 0 or 1");
        SawGrids saw = Logs.whole(2, 0);
        for (int wild : Logs.outside(0, 1)) {
            Check.noIndex("unsawn, turn " + wild, () -> saw.worth(wild));
        }
        saw.run();
        for (int wild : Logs.outside(0, 1)) {
            Check.noIndex("sawn, turn " + wild, () -> saw.worth(wild));
        }
    }

    private static void promise10Parts() {
        Check.sentence("YIELD: numerator (part = 0), denominator (1)");
        SawGrids saw = Logs.row(6, 0, 0, 0, 6);
        saw.size(1, 4, 5, 0);
        isYield("4 of 6", saw, 2, 3);
        saw.cell(1, 5, 0, false);
        isYield("4 of 5", saw, 4, 5);
        saw.cell(1, 4, 0, false);
        isYield("4 of 4", saw, 1, 1);
        SawGrids all = Logs.whole(20, 0);
        all.size(20, 20, 1, 0);
        isYield("400 of 400", all, 1, 1);
        SawGrids least = Logs.whole(20, 0);
        least.size(1, 1, 100, 0);
        for (int y = 0; y < 20; y++) {
            for (int x = 0; x < 20; x++) {
                least.knot(x, y, x == 7 && y == 11 ? 99 : 100);
            }
        }
        isYield("1 of 400", least, 1, 400);
    }

    private static void isYield(String what, SawGrids saw, int numerator, int denominator) {
        saw.run();
        Check.same("numerator, " + what, saw.yields(0), numerator);
        Check.same("denominator, " + what, saw.yields(1), denominator);
    }

    private static void promise10WithoutWood() {
        Check.sentence("0 / 1 without WOOD");
        SawGrids saw = new SawGrids(4, 0);
        isYield("nothing told", saw, 0, 1);
        saw.size(4, 4, 5, 16);
        isYield("a board without wood", saw, 0, 1);
        Check.same("the board", saw.all(3), 1);
        saw.span(0, 0, 0, 4);
        isYield("wood at one end", saw, 0, 1);
        saw.cell(1, 2, 0, true);
        isYield("one cell of wood", saw, 16, 1);
        saw.cell(1, 2, 0, false);
        isYield("no wood again", saw, 0, 1);
    }

    private static void promise10NoBoards() {
        Check.sentence("YIELD is cells of all boards by cells of WOOD, as a fraction without a common divisor.");
        for (int wood = 1; wood <= 6; wood++) {
            isYield("no boards of " + wood, Logs.row(6, 0, 0, 0, wood), 0, 1);
        }
    }

    private static void promise10MoreThanWood() {
        Check.sentence("YIELD is cells of all boards by cells of WOOD");
        SawGrids saw = Logs.row(4, 0, 0, 0, 3);
        saw.size(4, 4, 5, 16);
        isYield("16 of 3", saw, 16, 3);
        saw.cell(0, 3, 0, true);
        saw.cell(1, 3, 0, true);
        isYield("16 of 4", saw, 4, 1);
        SawGrids most = Logs.row(20, 0, 0, 0, 1);
        most.size(20, 20, 1, 400);
        isYield("400 of 1", most, 400, 1);
    }

    private static void promise10StateFirst() {
        Check.sentence("IllegalStateException (first); IndexOutOfBoundsException.");
        SawGrids saw = new SawGrids(6, 0);
        for (int wild : Logs.outside(0, 1)) {
            Check.noState("unsawn part " + wild, () -> saw.yields(wild));
        }
        Check.noState("unsawn part 0", () -> saw.yields(0));
        Check.noState("unsawn part 1", () -> saw.yields(1));
    }

    private static void promise10NoSuchPart() {
        Check.sentence("YIELD: numerator (part = 0), denominator (1)");
        SawGrids saw = new SawGrids(6, 0);
        saw.run();
        SawGrids whole = Logs.whole(6, 0);
        whole.run();
        for (int wild : Logs.outside(0, 1)) {
            Check.noIndex("part " + wild + " without wood", () -> saw.yields(wild));
            Check.noIndex("part " + wild, () -> whole.yields(wild));
        }
    }

    private static void promise11OnTheGrid() {
        Check.sentence("Whether a board of a SIZE may lie at x, y, lying (turn 0) or turned (1): it is on the grid");
        SawGrids saw = Logs.whole(5, 0);
        saw.size(2, 4, 1, 0);
        for (int y = -1; y <= 5; y++) {
            for (int x = -1; x <= 5; x++) {
                boolean lying = x >= 0 && x <= 1 && y >= 0 && y <= 3;
                boolean turned = x >= 0 && x <= 3 && y >= 0 && y <= 1;
                Check.same("lying at " + x + ", " + y, saw.may(0, x, y, 0) ? 1 : 0, lying ? 1 : 0);
                Check.same("turned at " + x + ", " + y, saw.may(0, x, y, 1) ? 1 : 0, turned ? 1 : 0);
            }
        }
        saw.size(5, 5, 1, 0);
        saw.size(6, 1, 1, 400);
        Check.yes("as large as the grid", saw.may(1, 0, 0, 0));
        Check.no("too thick", saw.may(2, 0, 0, 0));
        Check.no("too thick turned", saw.may(2, 0, 0, 1));
    }

    /** A place that is not on the grid is no wrong index: the answer is no. */
    private static void promise11OffTheGrid() {
        Check.sentence("IndexOutOfBoundsException: no such size, turn.");
        SawGrids saw = Logs.whole(5, 0);
        saw.size(1, 1, 1, 400);
        saw.size(20, 20, 1, 400);
        for (int wild : Logs.outside(0, 4)) {
            for (int k = 0; k < 4; k++) {
                Check.no("may at x " + wild, saw.may(k / 2, wild, 0, k % 2));
                Check.no("may at y " + wild, saw.may(k / 2, 0, wild, k % 2));
                Check.no("may at x and y " + wild, saw.may(k / 2, wild, wild, k % 2));
            }
        }
    }

    private static void promise11Wane() {
        Check.sentence("and not more than WANE of its cells are not WOOD");
        SawGrids saw = Logs.whole(5, 0);
        saw.size(2, 4, 1, 1);
        saw.cell(0, 2, 2, false);
        Check.yes("one wane lying", saw.may(0, 0, 1, 0));
        saw.cell(1, 2, 1, false);
        Check.no("two wanes lying", saw.may(0, 0, 1, 0));
        Check.yes("one wane in other rows", saw.may(0, 0, 2, 0));
        Check.no("two wanes turned", saw.may(0, 2, 0, 1));
        Check.yes("no wane turned", saw.may(0, 3, 0, 1));
        saw.knot(4, 0, 10000);
        Check.yes("a knot hinders nothing", saw.may(0, 3, 0, 1));
        SawGrids none = Logs.whole(1, 0);
        none.size(1, 1, 1, 0);
        Check.yes("no wane, wood", none.may(0, 0, 0, 0));
        none.cell(1, 0, 0, false);
        Check.no("no wane, no wood", none.may(0, 0, 0, 0));
    }

    private static void promise11Whenever() {
        Check.sentence("Promise 11: may");
        SawGrids saw = Logs.whole(2, 0);
        saw.size(2, 2, 0, 0);
        Check.yes("unsawn, and of no worth", saw.may(0, 0, 0, 0));
        Check.noState("may saws nothing", () -> saw.all(0));
        saw.size(1, 1, 1, 0);
        saw.run();
        Check.yes("where other boards were sawn", saw.may(0, 0, 0, 0));
        Check.same("may tells nothing", saw.all(3), 4);
        saw.cell(0, 1, 1, false);
        Check.no("told since", saw.may(0, 0, 0, 0));
        Check.yes("told since, another cell", saw.may(1, 0, 0, 1));
    }

    private static void promise11NoSuchSize() {
        Check.sentence("IndexOutOfBoundsException: no such size, turn.");
        SawGrids none = Logs.whole(5, 0);
        Check.noIndex("size 0 of none", () -> none.may(0, 0, 0, 0));
        SawGrids saw = Logs.whole(5, 0);
        saw.size(1, 1, 1, 0);
        saw.size(1, 1, 1, 400);
        for (int wild : Logs.outside(0, 1)) {
            Check.noIndex("size " + wild, () -> saw.may(wild, 0, 0, 0));
            Check.noIndex("size " + wild + " turned", () -> saw.may(wild, 0, 0, 1));
            Check.noIndex("size " + wild + " off the grid", () -> saw.may(wild, -1, 9, 0));
        }
        for (int k = 2; k < 8; k++) {
            int one = k;
            Check.noIndex("size " + one + " was not told", () -> saw.may(one, 0, 0, 0));
        }
    }

    private static void promise11NoSuchTurn() {
        Check.sentence("IndexOutOfBoundsException: no such size, turn.");
        SawGrids saw = Logs.whole(5, 0);
        saw.size(1, 1, 1, 0);
        for (int wild : Logs.outside(0, 1)) {
            Check.noIndex("turn " + wild, () -> saw.may(0, 0, 0, wild));
            Check.noIndex("turn " + wild + " off the grid", () -> saw.may(0, -1, 9, wild));
        }
    }

    private static void promise12Apart() {
        Check.sentence("Whether two boards lie KERF apart at least: along x or along y.");
        for (int kerf = 0; kerf <= 4; kerf++) {
            SawGrids saw = Logs.whole(9, kerf);
            saw.size(2, 2, 3, 0);
            areAllApart("kerf " + kerf, saw);
        }
        SawGrids mixed = Logs.whole(8, 1);
        mixed.size(3, 2, 7, 0);
        mixed.size(4, 5, 30, 0);
        mixed.size(3, 5, 16, 0);
        areAllApart("several sizes", mixed);
    }

    private static void areAllApart(String what, SawGrids saw) {
        int boards = saw.run();
        Check.yes("several boards, " + what, boards > 1);
        for (int a = 0; a < boards; a++) {
            for (int b = 0; b < boards; b++) {
                if (a != b) {
                    Check.yes("apart " + a + " " + b + ", " + what, saw.apart(a, b));
                }
            }
        }
    }

    private static void promise12Turned() {
        Check.sentence("along x or along y");
        SawGrids saw = new SawGrids(9, 2);
        for (int y = 0; y < 9; y++) {
            Logs.addWood(saw, y, 3, 7);
        }
        saw.size(1, 9, 50, 0);
        saw.size(1, 3, 5, 0);
        saw.knot(6, 4, 45);
        Check.same("boards", saw.run(), 3);
        Logs.isAll("turned", saw, 60, 1, 2, 3);
        Check.yes("along x", saw.apart(0, 1));
        Check.yes("along x too", saw.apart(2, 0));
        Check.yes("along y", saw.apart(1, 2));
    }

    /** A board is not apart from itself, even where no kerf is asked. */
    private static void promise12TheSame() {
        Check.sentence("Whether two boards lie KERF apart at least");
        for (int kerf = 0; kerf <= 4; kerf++) {
            SawGrids saw = Logs.whole(9, kerf);
            saw.size(2, 2, 3, 0);
            int boards = saw.run();
            for (int a = 0; a < boards; a++) {
                Check.no("board " + a + " from itself, kerf " + kerf, saw.apart(a, a));
            }
        }
    }

    private static void promise12StateFirst() {
        Check.sentence("IllegalStateException (first); IndexOutOfBoundsException.");
        SawGrids saw = Logs.whole(3, 0);
        saw.size(1, 3, 9, 0);
        for (int wild : Logs.outside(0, 2)) {
            Check.noState("unsawn apart " + wild + " 0", () -> saw.apart(wild, 0));
            Check.noState("unsawn apart 0 " + wild, () -> saw.apart(0, wild));
        }
        Check.noState("unsawn apart 0 1", () -> saw.apart(0, 1));
    }

    private static void promise12NoSuchBoard() {
        Check.sentence("IndexOutOfBoundsException: there is no such cell, end, size, board");
        SawGrids saw = Logs.whole(3, 0);
        saw.size(1, 3, 9, 0);
        saw.run();
        for (int wild : Logs.outside(0, 2)) {
            Check.noIndex("apart " + wild + " 0", () -> saw.apart(wild, 0));
            Check.noIndex("apart 0 " + wild, () -> saw.apart(0, wild));
            Check.noIndex("apart " + wild + " twice", () -> saw.apart(wild, wild));
        }
        SawGrids none = new SawGrids(3, 0);
        none.run();
        Check.noIndex("apart of no boards", () -> none.apart(0, 0));
    }
}
