/** The document's "Terms": what the words in capitals mean, a test for each sentence that names an edge. */
public final class TermsTest {
    public static void main(String[] args) {
        Check.each(
            TermsTest::gridNotInAtFirst,
            TermsTest::gridXToTheRightYDown,
            TermsTest::woodIsInAtBoth,
            TermsTest::sizesAsTheyAreTold,
            TermsTest::waneIsHowManyNeedNotBeWood,
            TermsTest::kerfRowsBetweenSlabs,
            TermsTest::kerfRowsAtLeast,
            TermsTest::kerfColumnsBetweenBoards,
            TermsTest::kerfColumnsAtLeast,
            TermsTest::noKerfAtTheGridsEdge,
            TermsTest::justThatThickness,
            TermsTest::boardIsOnTheGrid,
            TermsTest::lossesOfAllItsKnots,
            TermsTest::worthNotBelow0,
            TermsTest::turnedXAndYChangePlaces,
            TermsTest::greatestSum,
            TermsTest::fewestBoards,
            TermsTest::slabBeforeNone,
            TermsTest::thinnerSlabFirst,
            TermsTest::boardBeforeNone,
            TermsTest::lesserSizeFirst,
            TermsTest::slabsBeforeTheirBoards,
            TermsTest::firstRowsBeforeLater,
            TermsTest::slabForABoardAtLeast,
            TermsTest::bestOfBothTurns,
            TermsTest::theLyingOneOfTwo,
            TermsTest::fewerBoardsOfBothTurns,
            TermsTest::yieldWithoutCommonDivisor,
            TermsTest::refusedTellingChangesNothing,
            TermsTest::refusedAskingChangesNothing,
            TermsTest::refusedUnsawnChangesNothing,
            TermsTest::nothingWasSawn,
            TermsTest::nothingWasSawnSinceTold,
            TermsTest::nothingWasSawnSinceToldAgain,
            TermsTest::sawnSinceTold,
            TermsTest::fiveHundredAndTwelveCalls);
        Check.end("TermsTest");
    }

    private static void gridNotInAtFirst() {
        Check.sentence("each is IN at end 0 or 1, or not (not at first)");
        for (int side = 1; side <= 20; side++) {
            for (int end = 0; end < 2; end++) {
                SawGrids saw = new SawGrids(side, 0);
                for (int k = 0; k < side * side; k++) {
                    Check.no("not in at end " + end, saw.cell(end, k % side, k / side, false));
                }
            }
        }
    }

    private static void gridXToTheRightYDown() {
        Check.sentence("THE GRID has SIDE by SIDE cells (x to the right, y down)");
        SawGrids saw = Logs.row(5, 0, 3, 1, 5);
        saw.size(1, 4, 9, 0);
        Check.yes("along x", saw.may(0, 1, 3, 0));
        Check.no("not along y", saw.may(0, 1, 1, 1));
        Check.no("not in row 1", saw.may(0, 1, 1, 0));
        saw.run();
        Logs.isBoard("a row", saw, 0, 0, 1, 3, 4, 1);
    }

    private static void woodIsInAtBoth() {
        Check.sentence("it is WOOD if it is IN at both");
        for (int k = 0; k < 4; k++) {
            SawGrids saw = new SawGrids(2, 0);
            saw.cell(0, 1, 0, k % 2 == 1);
            saw.cell(1, 1, 0, k / 2 == 1);
            saw.size(1, 1, 1, 0);
            Check.same("wood with ends " + k, saw.wood(), k == 3 ? 1 : 0);
            Check.same("boards with ends " + k, saw.run(), k == 3 ? 1 : 0);
            Check.same("may with ends " + k, saw.may(0, 1, 0, 0) ? 1 : 0, k == 3 ? 1 : 0);
        }
        // In at end 0 in one cell and at end 1 in another is no wood.
        SawGrids apart = new SawGrids(2, 0);
        apart.span(0, 0, 0, 2);
        apart.span(1, 1, 0, 2);
        Check.same("one end a row", apart.wood(), 0);
    }

    private static void sizesAsTheyAreTold() {
        Check.sentence("SIZES 0 .. 7 (as they are told)");
        SawGrids saw = Logs.whole(8, 0);
        for (int k = 0; k < 8; k++) {
            Check.same("number", saw.size(1, 8 - k, k, 0), k);
        }
        for (int k = 0; k < 8; k++) {
            Check.yes("size " + k + " as far right as it goes", saw.may(k, k, 0, 0));
            Check.no("size " + k + " too far right", saw.may(k, k + 1, 0, 0));
        }
        // Size 7 is one cell worth 7: nothing else gives as much of a row.
        Check.same("boards of size 7", saw.run(), 64);
        Logs.isBoard("size 7", saw, 63, 7, 7, 7, 1, 1, 7, 0);
        SawGrids twice = Logs.whole(2, 0);
        Check.same("a size", twice.size(2, 2, 5, 0), 0);
        Check.same("the same told twice is two", twice.size(2, 2, 5, 0), 1);
    }

    private static void waneIsHowManyNeedNotBeWood() {
        Check.sentence("at most WANE of its cells are not WOOD");
        for (int wane = 0; wane <= 10; wane++) {
            for (int bare = 0; bare <= 9; bare++) {
                SawGrids saw = Logs.whole(3, 0);
                for (int k = 0; k < bare; k++) {
                    saw.cell(k % 2, k % 3, k / 3, false);
                }
                saw.size(3, 3, 9, wane);
                int due = bare <= wane ? 1 : 0;
                String what = " of " + bare + " bare cells, wane " + wane;
                Check.same("may lying" + what, saw.may(0, 0, 0, 0) ? 1 : 0, due);
                Check.same("may turned" + what, saw.may(0, 0, 0, 1) ? 1 : 0, due);
                Check.same("worth lying" + what, saw.worth(0), 9 * due);
                Check.same("worth turned" + what, saw.worth(1), 9 * due);
                Check.same("boards" + what, saw.run(), due);
                if (due == 1) {
                    Check.same("cells that are not wood" + what, saw.board(0, 6), bare);
                }
            }
        }
    }

    private static void kerfRowsBetweenSlabs() {
        Check.sentence("between two slabs that are next to one another KERF rows at least are lost");
        for (int kerf = 0; kerf <= 4; kerf++) {
            for (int thick = 1; thick <= 3; thick++) {
                int just = 2 * thick + kerf;
                SawGrids saw = Logs.whole(just, kerf);
                saw.size(thick, just, 9, 0);
                Check.same("just enough rows, kerf " + kerf, saw.run(), 2);
                Check.same("second slab, kerf " + kerf, saw.board(1, 2), thick + kerf);
                SawGrids less = Logs.whole(just - 1, kerf);
                less.size(thick, just - 1, 9, 0);
                Check.same("a row too few, kerf " + kerf, less.run(), 1);
            }
        }
        SawGrids three = Logs.whole(5, 1);
        three.size(1, 5, 9, 0);
        Check.same("three slabs", three.run(), 3);
        Check.same("third slab", three.board(2, 2), 4);
    }

    private static void kerfRowsAtLeast() {
        Check.sentence("KERF rows at least are lost");
        SawGrids saw = new SawGrids(9, 2);
        Logs.addWood(saw, 1, 0, 9);
        Logs.addWood(saw, 4, 0, 9);
        Logs.addWood(saw, 8, 0, 9);
        saw.size(1, 9, 5, 0);
        Check.same("two rows lost, and three", saw.run(), 3);
        Check.same("second slab", saw.board(1, 2), 4);
        Check.same("third slab", saw.board(2, 2), 8);
        SawGrids close = new SawGrids(9, 2);
        Logs.addWood(close, 1, 0, 9);
        Logs.addWood(close, 3, 0, 9);
        close.size(1, 9, 5, 0);
        Check.same("one row lost is too few", close.run(), 1);
        Check.same("the first of them", close.board(0, 2), 1);
    }

    private static void kerfColumnsBetweenBoards() {
        Check.sentence("from the left to the right, KERF columns at least between two");
        for (int kerf = 0; kerf <= 4; kerf++) {
            for (int wide = 2; wide <= 4; wide++) {
                int just = 2 * wide + kerf;
                SawGrids saw = Logs.row(just, kerf, 0, 0, just);
                saw.size(1, wide, 9, 0);
                Check.same("just enough columns, kerf " + kerf, saw.run(), 2);
                Check.same("one slab", saw.all(2), 1);
                Check.same("first board", saw.board(0, 1), 0);
                Check.same("second board, kerf " + kerf, saw.board(1, 1), wide + kerf);
                SawGrids less = Logs.row(just - 1, kerf, 0, 0, just - 1);
                less.size(1, wide, 9, 0);
                Check.same("a column too few, kerf " + kerf, less.run(), 1);
            }
        }
    }

    private static void kerfColumnsAtLeast() {
        Check.sentence("KERF columns at least between two");
        SawGrids saw = Logs.row(12, 2, 5, 0, 2);
        Logs.addWood(saw, 5, 4, 6);
        Logs.addWood(saw, 5, 10, 12);
        saw.size(1, 2, 5, 0);
        Check.same("two columns between, and four", saw.run(), 3);
        Logs.isAll("in one slab", saw, 15, 0, 1, 3);
        Check.same("second board", saw.board(1, 1), 4);
        Check.same("third board", saw.board(2, 1), 10);
        SawGrids close = Logs.row(12, 2, 5, 0, 2);
        Logs.addWood(close, 5, 3, 5);
        close.size(1, 2, 5, 0);
        Check.same("one column between is too few", close.run(), 1);
    }

    private static void noKerfAtTheGridsEdge() {
        Check.sentence("slabs, one below the other, each as thick as some SIZE; between two slabs");
        for (int side = 1; side <= 20; side++) {
            SawGrids saw = Logs.whole(side, 4);
            saw.size(side, side, 3, 0);
            Check.same("a slab of all rows, side " + side, saw.run(), 1);
            Logs.isBoard("a slab of all rows", saw, 0, 0, 0, 0, side, side, 3, 0);
            SawGrids last = Logs.row(side, 4, side - 1, side - 1, side);
            last.size(1, 1, 3, 0);
            Check.same("a board in the last cell, side " + side, last.run(), 1);
            Logs.isBoard("a board in the last cell", last, 0, 0, side - 1, side - 1, 1, 1, 3, 0);
        }
    }

    /** With boards of two thicknesses in one slab the sum would be 13. */
    private static void justThatThickness() {
        Check.sentence("in a slab boards of SIZES of just that thickness");
        SawGrids saw = Logs.row(4, 0, 0, 0, 4);
        Logs.addWood(saw, 1, 0, 2);
        saw.size(2, 2, 10, 0);
        saw.size(1, 2, 3, 0);
        Check.same("lying", saw.worth(0), 10);
        Check.same("turned", saw.worth(1), 10);
        Check.same("boards", saw.run(), 1);
        Logs.isAll("one slab", saw, 10, 0, 1, 1);
        // Sizes of the same thickness do lie in one slab.
        SawGrids same = Logs.row(5, 0, 0, 0, 5);
        same.size(1, 2, 4, 0);
        same.size(1, 3, 7, 0);
        Check.same("boards of one thickness", same.run(), 2);
        Logs.isAll("boards of one thickness", same, 11, 0, 1, 2);
    }

    private static void boardIsOnTheGrid() {
        Check.sentence("A board covers thickness rows by width columns on the grid");
        for (int side = 1; side <= 19; side++) {
            SawGrids saw = Logs.whole(side, 0);
            saw.size(side + 1, 1, 9, 400);
            saw.size(1, side + 1, 9, 400);
            saw.size(side + 1, side + 1, 9, 400);
            Check.same("one too large for side " + side, saw.run(), 0);
            saw.size(side, side, 9, 0);
            Check.same("just as large as side " + side, saw.run(), 1);
            Logs.isBoard("just as large", saw, 0, 3, 0, 0, side, side);
        }
    }

    /** Each cell's knot has its own digit, so that the sum tells which were counted. */
    private static void lossesOfAllItsKnots() {
        Check.sentence("It is worth its SIZE's WORTH less the losses of all its cells' KNOTS");
        SawGrids saw = Logs.row(4, 0, 1, 1, 4);
        Logs.addWood(saw, 2, 1, 3);
        saw.size(2, 3, 100000, 1);
        saw.knot(1, 1, 1);
        saw.knot(3, 1, 10);
        saw.knot(1, 2, 100);
        saw.knot(3, 2, 1000);
        saw.knot(2, 2, 10000);
        for (int k = 0; k < 4; k++) {
            saw.knot(k, 0, 5000);
            saw.knot(k, 3, 5000);
        }
        saw.knot(0, 1, 5000);
        saw.knot(0, 2, 5000);
        Check.same("worth", saw.worth(0), 88889);
        Check.same("boards", saw.run(), 1);
        Logs.isBoard("a knot counts in a cell that is not wood too", saw, 0, 0, 1, 1, 3, 2, 88889, 1);
    }

    private static void worthNotBelow0() {
        Check.sentence("but not below 0");
        SawGrids saw = Logs.whole(2, 0);
        saw.size(1, 2, 5, 0);
        saw.knot(0, 0, 3);
        saw.knot(1, 0, 2);
        Check.same("one row worth just 0", saw.worth(0), 5);
        saw.knot(1, 0, 10000);
        Check.same("one row worth less than 0", saw.worth(0), 5);
        Check.same("a board in the other row", saw.run(), 1);
        Logs.isBoard("the other row", saw, 0, 0, 0, 1, 2, 1, 5, 0);
        saw.knot(0, 1, 10000);
        Check.same("both rows", saw.worth(0), 0);
        Check.same("both columns", saw.worth(1), 0);
        Check.same("no boards", saw.run(), 0);
        Logs.isAll("no boards", saw, 0, 0, 0, 0);
        saw.knot(0, 1, 4);
        Check.same("worth 1", saw.run(), 1);
        Logs.isBoard("worth 1", saw, 0, 0, 0, 1, 2, 1, 1, 0);
    }

    /** A log, and the same with x and y changed: what one is lying the other is turned. */
    private static void turnedXAndYChangePlaces() {
        Check.sentence("Turned (turn 1) x and y change places: slabs are columns, boards go down.");
        SawGrids lying = new SawGrids(7, 1);
        SawGrids turned = new SawGrids(7, 1);
        for (int y = 2; y < 6; y++) {
            for (int x = 0; x < 7; x++) {
                for (int end = 0; end < 2; end++) {
                    lying.cell(end, x, y, true);
                    turned.cell(end, y, x, true);
                }
            }
        }
        lying.knot(5, 2, 3);
        turned.knot(2, 5, 3);
        for (SawGrids saw : new SawGrids[] {lying, turned}) {
            saw.size(2, 7, 30, 0);
            saw.size(1, 3, 6, 0);
        }
        Check.same("lying", lying.worth(0), 39);
        Check.same("turned", turned.worth(1), 39);
        Check.same("the other way", lying.worth(1), turned.worth(0));
        Check.same("boards lying", lying.run(), 3);
        Check.same("boards turned", turned.run(), 3);
        Logs.isAll("lying", lying, 39, 0, 2, 3);
        Logs.isAll("turned", turned, 39, 1, 2, 3);
        for (int k = 0; k < 3; k++) {
            Logs.isBoard("turned", turned, k, lying.board(k, 0), lying.board(k, 2), lying.board(k, 1),
                lying.board(k, 4), lying.board(k, 3), lying.board(k, 5), lying.board(k, 6));
        }
        Logs.isBoard("the thin slab is above", lying, 1, 1, 4, 2, 3, 1, 3, 0);
        Logs.isBoard("the thick slab is below", lying, 2, 0, 0, 4, 7, 2, 30, 0);
    }

    private static void greatestSum() {
        Check.sentence("THE BEST pattern of a turn has the greatest sum of what boards are worth");
        SawGrids saw = Logs.whole(4, 0);
        saw.size(4, 4, 31, 0);
        saw.size(1, 1, 2, 0);
        Check.same("sixteen boards for one more", saw.run(), 16);
        Check.same("sum", saw.all(0), 32);
        // The best first board is not of the best pattern.
        SawGrids greedy = Logs.row(6, 0, 0, 0, 6);
        greedy.size(1, 4, 10, 0);
        greedy.size(1, 3, 6, 0);
        Check.same("two lesser ones", greedy.run(), 2);
        Logs.isAll("two lesser ones", greedy, 12, 0, 1, 2);
    }

    private static void fewestBoards() {
        Check.sentence("of several the fewest boards");
        SawGrids saw = Logs.whole(4, 0);
        saw.size(1, 1, 1, 0);
        saw.size(1, 2, 2, 0);
        saw.size(4, 4, 16, 0);
        saw.size(2, 4, 8, 0);
        Check.same("fewest boards", saw.run(), 1);
        Logs.isBoard("fewest boards", saw, 0, 2, 0, 0, 4, 4, 16, 0);
        // In a slab: one of 4 is as much as 3 and 1, though a lesser size would come first.
        SawGrids slab = Logs.row(4, 0, 0, 0, 4);
        slab.size(1, 1, 3, 0);
        slab.size(1, 3, 5, 0);
        slab.size(1, 4, 12, 0);
        Check.same("one board for four", slab.run(), 1);
        Logs.isBoard("one board for four", slab, 0, 2, 0, 0, 4, 1, 12, 0);
        // Boards of no worth are boards more.
        SawGrids free = Logs.whole(3, 0);
        free.size(1, 1, 0, 0);
        Check.same("boards of no worth", free.run(), 0);
        free.size(2, 2, 1, 0);
        Check.same("one of some worth", free.run(), 1);
        // Fewer slabs do not count, fewer boards do.
        SawGrids slabs = Logs.whole(2, 0);
        slabs.size(2, 1, 2, 0);
        slabs.size(1, 2, 2, 0);
        Check.same("two boards either way", slabs.run(), 2);
        Logs.isAll("two thin slabs before a thick one", slabs, 4, 0, 2, 2);
    }

    private static void slabBeforeNone() {
        Check.sentence("from the first row on: a slab at a row before none");
        for (int side = 1; side <= 5; side++) {
            SawGrids saw = Logs.whole(side, 4);
            saw.size(1, side, 7, 0);
            Check.same("one slab", saw.run(), 1);
            Check.same("in the first row", saw.board(0, 2), 0);
        }
        SawGrids loose = Logs.whole(5, 0);
        loose.size(2, 5, 7, 0);
        loose.run();
        Check.same("first slab as high as it can be", loose.board(0, 2), 0);
        Check.same("second slab too", loose.board(1, 2), 2);
        // A thick slab at row 0 comes before none there and a thin one at row 1.
        SawGrids thick = Logs.whole(3, 4);
        thick.cell(0, 0, 0, false);
        thick.size(3, 3, 7, 1);
        thick.size(1, 3, 7, 0);
        Check.same("one slab", thick.run(), 1);
        Check.same("the thick one at the first row", thick.board(0, 0), 0);
    }

    private static void thinnerSlabFirst() {
        Check.sentence("a thinner slab first");
        SawGrids mixed = Logs.whole(3, 0);
        mixed.size(2, 3, 20, 0);
        mixed.size(1, 3, 9, 0);
        Check.same("thin and thick", mixed.run(), 2);
        Logs.isBoard("the thinner first", mixed, 0, 1, 0, 0, 3, 1, 9, 0);
        Logs.isBoard("the thicker then", mixed, 1, 0, 0, 1, 3, 2, 20, 0);
        SawGrids same = Logs.whole(3, 4);
        same.size(3, 3, 9, 0);
        same.size(2, 3, 9, 0);
        same.run();
        Logs.isBoard("the thinner of one", same, 0, 1, 0, 0, 3, 2, 9, 0);
    }

    private static void boardBeforeNone() {
        Check.sentence("in a slab, from the first column on, a board before none");
        SawGrids saw = Logs.row(7, 1, 3, 0, 7);
        saw.size(1, 2, 5, 0);
        Check.same("two boards in seven columns", saw.run(), 2);
        Logs.isBoard("first", saw, 0, 0, 0, 3);
        Logs.isBoard("second", saw, 1, 0, 3, 3);
        SawGrids one = Logs.row(5, 4, 2, 1, 5);
        one.size(1, 2, 5, 0);
        Check.same("one board", one.run(), 1);
        Check.same("as far left as it can be", one.board(0, 1), 1);
        // One of a greater size at column 0 comes before none there and one of a lesser size at column 1.
        SawGrids greater = Logs.row(4, 4, 0, 0, 4);
        greater.cell(0, 0, 0, false);
        greater.size(1, 3, 5, 0);
        greater.size(1, 4, 5, 1);
        greater.run();
        Logs.isBoard("the greater size at the first column", greater, 0, 1, 0, 0);
    }

    private static void lesserSizeFirst() {
        Check.sentence("one of a lesser SIZE first");
        SawGrids saw = Logs.row(6, 1, 0, 0, 6);
        saw.size(1, 3, 8, 0);
        saw.size(1, 2, 8, 0);
        Check.same("two boards of six columns", saw.run(), 2);
        Logs.isBoard("the lesser size first", saw, 0, 0, 0, 0, 3, 1);
        Logs.isBoard("the other one then", saw, 1, 1, 4, 0, 2, 1);
        SawGrids twins = Logs.whole(2, 0);
        twins.size(2, 2, 0, 0);
        twins.size(2, 2, 6, 0);
        twins.size(2, 2, 6, 0);
        twins.run();
        Check.same("the lesser twin", twins.board(0, 0), 1);
    }

    private static void slabsBeforeTheirBoards() {
        Check.sentence("a slab at a row before none, a thinner slab first; in a slab");
        SawGrids saw = Logs.whole(3, 4);
        saw.cell(1, 0, 0, false);
        saw.size(2, 2, 5, 1);
        saw.size(1, 2, 5, 0);
        Check.same("one board", saw.run(), 1);
        Logs.isBoard("thinner, though farther right and of a greater size", saw, 0, 1, 1, 0, 2, 1, 5, 0);
    }

    private static void firstRowsBeforeLater() {
        Check.sentence("then, from the first row on");
        SawGrids saw = Logs.whole(5, 0);
        saw.size(3, 5, 9, 0);
        saw.size(2, 5, 9, 0);
        saw.size(1, 5, 1, 0);
        // 18 of two slabs of 2 and 1 of a thin one; the thin one comes first.
        Check.same("three slabs", saw.run(), 3);
        Logs.isAll("three slabs", saw, 19, 0, 3, 3);
        Logs.isBoard("thin", saw, 0, 2, 0, 0);
        Logs.isBoard("then thicker", saw, 1, 1, 0, 1);
        Logs.isBoard("and the other", saw, 2, 1, 0, 3);
    }

    private static void slabForABoardAtLeast() {
        Check.sentence("(A slab is there for at least one board.)");
        SawGrids saw = Logs.row(5, 0, 3, 0, 5);
        saw.size(1, 5, 6, 0);
        saw.size(2, 5, 6, 0);
        Check.same("no slab above the board", saw.run(), 1);
        Logs.isAll("one slab", saw, 6, 0, 1, 1);
        saw.knot(2, 3, 6);
        Check.same("none with a board of no worth", saw.run(), 0);
        Logs.isAll("no slab", saw, 0, 0, 0, 0);
        SawGrids none = Logs.whole(5, 0);
        Check.same("no sizes", none.run(), 0);
        Logs.isAll("no sizes, no slab", none, 0, 0, 0, 0);
    }

    private static void bestOfBothTurns() {
        Check.sentence("SAWN: the BEST one of both turns");
        SawGrids saw = new SawGrids(5, 0);
        for (int y = 0; y < 5; y++) {
            Logs.addWood(saw, y, 2, 3);
        }
        saw.size(1, 5, 50, 0);
        saw.size(1, 1, 3, 0);
        Check.same("one board for 50, not five for 15", saw.run(), 1);
        Logs.isAll("turned", saw, 50, 1, 1, 1);
        // More boards, if they are worth more.
        SawGrids more = new SawGrids(5, 0);
        Logs.addWood(more, 0, 0, 5);
        more.size(1, 5, 14, 0);
        more.size(2, 1, 3, 1);
        Check.same("worth lying", more.worth(0), 15);
        Check.same("worth turned", more.worth(1), 6);
        Check.same("five boards for one more", more.run(), 5);
        Logs.isAll("lying", more, 15, 0, 1, 5);
        SawGrids turned = new SawGrids(5, 0);
        for (int y = 0; y < 5; y++) {
            Logs.addWood(turned, y, 0, 1);
        }
        turned.size(1, 5, 14, 0);
        turned.size(2, 1, 3, 1);
        Check.same("five boards turned", turned.run(), 5);
        Logs.isAll("turned", turned, 15, 1, 1, 5);
    }

    private static void theLyingOneOfTwo() {
        Check.sentence("(of the same worth and as many boards the lying one)");
        SawGrids saw = Logs.whole(6, 0);
        saw.size(2, 3, 5, 0);
        Check.same("as good turned", saw.run(), 6);
        Logs.isAll("as good turned", saw, 30, 0, 3, 6);
        SawGrids square = Logs.whole(1, 0);
        square.size(1, 1, 1, 0);
        square.run();
        Logs.isAll("one cell", square, 1, 0, 1, 1);
        // Fewer slabs turned are no reason.
        SawGrids slabs = new SawGrids(3, 0);
        for (int y = 0; y < 3; y++) {
            Logs.addWood(slabs, y, 1, 2);
        }
        slabs.size(1, 1, 2, 0);
        Check.same("three boards either way", slabs.run(), 3);
        Logs.isAll("three slabs lying", slabs, 6, 0, 3, 3);
        SawGrids none = new SawGrids(3, 0);
        none.run();
        Check.same("nothing is lying too", none.all(1), 0);
    }

    private static void fewerBoardsOfBothTurns() {
        Check.sentence("of the same worth and as many boards");
        SawGrids turned = new SawGrids(4, 0);
        for (int y = 0; y < 4; y++) {
            Logs.addWood(turned, y, 1, 2);
        }
        turned.size(1, 1, 3, 0);
        turned.size(1, 4, 12, 0);
        Check.same("worth lying", turned.worth(0), 12);
        Check.same("worth turned", turned.worth(1), 12);
        Check.same("fewer boards turned", turned.run(), 1);
        Logs.isAll("fewer boards turned", turned, 12, 1, 1, 1);
        SawGrids lying = Logs.row(4, 0, 1, 0, 4);
        lying.size(1, 1, 3, 0);
        lying.size(1, 4, 12, 0);
        Check.same("worth turned", lying.worth(1), 12);
        Check.same("fewer boards lying", lying.run(), 1);
        Logs.isAll("fewer boards lying", lying, 12, 0, 1, 1);
    }

    private static void yieldWithoutCommonDivisor() {
        Check.sentence("YIELD is cells of all boards by cells of WOOD, as a fraction without a common divisor.");
        for (int wood = 1; wood <= 20; wood++) {
            for (int wide = 1; wide <= wood; wide++) {
                SawGrids saw = Logs.row(20, 4, 0, 0, wood);
                saw.size(1, wide, 3, 0);
                int cells = saw.run() * wide;
                int numerator = saw.yields(0);
                int denominator = saw.yields(1);
                String what = " of " + cells + " by " + wood;
                Check.same("yield" + what, numerator * wood, denominator * cells);
                Check.yes("numerator" + what, numerator > 0);
                for (int k = 2; k <= 20; k++) {
                    Check.no("divisor " + k + what, numerator % k == 0 && denominator % k == 0);
                }
            }
        }
    }

    /** A log that was sawn, for calls that are refused: its second slab's board has a knot. */
    private static SawGrids sawnLog() {
        SawGrids saw = Logs.whole(3, 1);
        saw.size(1, 3, 10, 0);
        saw.knot(2, 2, 4);
        saw.run();
        return saw;
    }

    private static void isAsSawn(String what, SawGrids saw) {
        Logs.isAll(what, saw, 16, 0, 2, 2);
        Logs.isBoard(what, saw, 0, 0, 0, 0, 3, 1, 10, 0);
        Logs.isBoard(what, saw, 1, 0, 0, 2, 3, 1, 6, 0);
        Check.same(what + ", numerator", saw.yields(0), 2);
        Check.same(what + ", denominator", saw.yields(1), 3);
        Check.same(what + ", wood", saw.wood(), 9);
        Check.same(what + ", lying", saw.worth(0), 16);
        Check.same(what + ", turned", saw.worth(1), 16);
        Check.noIndex(what + ", sizes", () -> saw.may(1, 0, 0, 0));
    }

    private static void refusedTellingChangesNothing() {
        Check.sentence("A call that throws changes nothing");
        SawGrids saw = sawnLog();
        Check.noIndex("cell's end", () -> saw.cell(2, 0, 0, false));
        Check.noIndex("cell's x", () -> saw.cell(0, 3, 0, false));
        Check.noIndex("cell's y", () -> saw.cell(1, 0, -1, false));
        isAsSawn("cell", saw);
        Check.noIndex("span's end", () -> saw.span(-1, 0, 0, 3));
        Check.noIndex("span's row", () -> saw.span(0, 3, 0, 3));
        Check.noArgument("span's from", () -> saw.span(0, 0, -1, 3));
        Check.noArgument("span's to", () -> saw.span(0, 0, 1, 4));
        isAsSawn("span", saw);
        Check.noIndex("knot's x", () -> saw.knot(-1, 0, 3));
        Check.noIndex("knot's y", () -> saw.knot(0, 3, 3));
        Check.noArgument("knot's loss", () -> saw.knot(0, 0, 10001));
        Check.noArgument("knot's loss", () -> saw.knot(0, 0, -1));
        isAsSawn("knot", saw);
        Check.noArgument("thick", () -> saw.size(0, 3, 20, 0));
        Check.noArgument("wide", () -> saw.size(1, 21, 20, 0));
        Check.noArgument("worth", () -> saw.size(1, 3, 100001, 0));
        Check.noArgument("wane", () -> saw.size(1, 3, 20, 401));
        isAsSawn("size", saw);
        // A span that would reach beyond the row leaves the cells before it alone.
        SawGrids part = new SawGrids(4, 0);
        Check.noArgument("too long a span", () -> part.span(0, 0, 0, 5));
        Check.no("its first cell", part.cell(0, 0, 0, false));
        SawGrids full = Logs.whole(4, 1);
        for (int k = 0; k < 8; k++) {
            full.size(1, 4, 10, 0);
        }
        full.run();
        Check.noState("a ninth size", () -> full.size(1, 4, 99, 0));
        Logs.isAll("a ninth size", full, 20, 0, 2, 2);
        Check.same("a ninth size, worth", full.worth(0), 20);
    }

    private static void refusedAskingChangesNothing() {
        Check.sentence("A call that throws changes nothing");
        SawGrids saw = sawnLog();
        Check.noIndex("board", () -> saw.board(2, 0));
        Check.noIndex("board's what", () -> saw.board(0, 7));
        Check.noIndex("all", () -> saw.all(4));
        Check.noIndex("worth", () -> saw.worth(2));
        Check.noIndex("yields", () -> saw.yields(2));
        Check.noIndex("may's size", () -> saw.may(1, 0, 0, 0));
        Check.noIndex("may's turn", () -> saw.may(0, 0, 0, 2));
        Check.noIndex("apart", () -> saw.apart(0, 2));
        isAsSawn("asking", saw);
    }

    private static void refusedUnsawnChangesNothing() {
        Check.sentence("A call that throws changes nothing");
        SawGrids saw = sawnLog();
        saw.knot(2, 2, 5);
        for (int k = 0; k < 3; k++) {
            Logs.isUnsawn("a knot", saw);
            Check.noIndex("may's turn", () -> saw.may(0, 0, 0, -1));
            Check.noIndex("worth's turn", () -> saw.worth(-1));
        }
        Check.same("sawn again", saw.run(), 2);
        Logs.isAll("sawn again", saw, 15, 0, 2, 2);
    }

    private static void nothingWasSawn() {
        Check.sentence("IllegalStateException: there is no room, or nothing was SAWN");
        SawGrids saw = new SawGrids(3, 0);
        Logs.isUnsawn("nothing", saw);
        saw.worth(0);
        saw.worth(1);
        saw.wood();
        Logs.isUnsawn("questions", saw);
        saw.run();
        Logs.isAll("sawn without anything told", saw, 0, 0, 0, 0);
    }

    private static void nothingWasSawnSinceTold() {
        Check.sentence("or nothing was SAWN since something was told.");
        SawGrids saw = sawnLog();
        saw.cell(0, 0, 0, false);
        Logs.isUnsawn("cell", saw);
        saw.run();
        saw.span(0, 0, 0, 1);
        Logs.isUnsawn("span", saw);
        saw.run();
        saw.knot(0, 0, 1);
        Logs.isUnsawn("knot", saw);
        saw.run();
        saw.size(1, 3, 10, 0);
        Logs.isUnsawn("size", saw);
        // What was told is not taken back by telling the old again.
        saw.run();
        saw.knot(0, 0, 2);
        saw.knot(0, 0, 1);
        Logs.isUnsawn("a knot and back", saw);
        // Asking does not saw.
        saw.worth(0);
        saw.worth(1);
        saw.may(0, 0, 0, 0);
        saw.wood();
        Logs.isUnsawn("a knot and questions", saw);
    }

    /** Nothing new is told, but told it is: the document does not ask that it be new. */
    private static void nothingWasSawnSinceToldAgain() {
        Check.sentence("since something was told");
        SawGrids saw = sawnLog();
        Check.no("in again", saw.cell(0, 0, 0, true));
        Logs.isUnsawn("cell again", saw);
        saw.run();
        Check.no("the same knot", saw.knot(2, 2, 4));
        Logs.isUnsawn("knot again", saw);
        saw.run();
        saw.span(0, 0, 0, 3);
        Logs.isUnsawn("span again", saw);
        saw.run();
        saw.span(0, 0, 2, 2);
        Logs.isUnsawn("empty span", saw);
    }

    private static void sawnSinceTold() {
        Check.sentence("nothing was SAWN since something was told");
        SawGrids saw = sawnLog();
        for (int k = 0; k < 3; k++) {
            isAsSawn("asked again", saw);
            Check.yes("may", saw.may(0, 0, 0, 0));
            Check.yes("apart", saw.apart(0, 1));
        }
        Check.same("sawn twice", saw.run(), 2);
        Check.same("and once more", saw.run(), 2);
        isAsSawn("sawn twice", saw);
    }

    /** Every call of an object's 512 is answered from what is there at that time, the last one too. */
    private static void fiveHundredAndTwelveCalls() {
        Check.sentence("An object is used for at most 512 calls after it has been made");
        SawGrids saw = new SawGrids(20, 0);
        saw.size(1, 1, 100000, 400);
        for (int k = 0; k < 170; k++) {
            saw.knot(k % 20, k / 20, 1);
            Check.same("boards " + k, saw.run(), 400);
            Check.same("sum " + k, saw.all(0), 40000000 - k - 1);
        }
        Check.same("the last call", saw.board(399, 2), 19);
    }
}
