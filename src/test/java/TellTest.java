/** Promises 1 to 5 and 13: what a log is told, and how much of it is wood. */
public final class TellTest {
    public static void main(String[] args) {
        promise1Side();
        promise1Kerf();
        promise1StartsEmpty();
        promise2Cell();
        promise2Wrong();
        promise3Span();
        promise3Wrong();
        promise4Knot();
        promise4Wrong();
        promise5Size();
        promise5Wrong();
        promise13Wood();
        refusedCallsChangeNothing();
        toldCallsEndWhatWasSawn();
        Check.end("TellTest");
    }

    private static void promise1Side() {
        int[][] nearest = {{Integer.MIN_VALUE, 1}, {-1, 1}, {0, 1}, {1, 1}, {2, 2}, {7, 7}, {19, 19}, {20, 20},
            {21, 20}, {Integer.MAX_VALUE, 20}};
        for (int[] pair : nearest) {
            SawGrids saw = new SawGrids(pair[0], 0);
            int side = pair[1];
            Check.yes("last cell of side " + pair[0], saw.cell(0, side - 1, side - 1, true));
            Check.noIndex("x beyond side " + pair[0], () -> saw.cell(0, side, 0, true));
            Check.noIndex("y beyond side " + pair[0], () -> saw.cell(0, 0, side, true));
            Check.noArgument("span beyond side " + pair[0], () -> saw.span(0, 0, 0, side + 1));
        }
    }

    private static void promise1Kerf() {
        int[][] nearest = {{Integer.MIN_VALUE, 0}, {-1, 0}, {0, 0}, {1, 1}, {2, 2}, {3, 3}, {4, 4}, {5, 4},
            {Integer.MAX_VALUE, 4}};
        for (int[] pair : nearest) {
            SawGrids saw = Logs.whole(10, pair[0]);
            saw.size(10, 1, 1, 0);
            int kerf = pair[1];
            Check.same("boards with kerf " + pair[0], saw.run(), (10 + kerf) / (1 + kerf));
            Check.same("second board with kerf " + pair[0], saw.board(1, 1), 1 + kerf);
        }
    }

    private static void promise1StartsEmpty() {
        SawGrids saw = new SawGrids(5, 1);
        Check.same("NONE", SawGrids.NONE, -1);
        Check.same("wood of a new log", saw.wood(), 0);
        Check.noIndex("sizes of a new log", () -> saw.may(0, 0, 0, 0));
        Check.no("knot of a new log", saw.knot(4, 4, 0));
        Check.noState("board of a new log", () -> saw.board(0, 0));
        Check.noState("all of a new log", () -> saw.all(0));
        Check.noState("yields of a new log", () -> saw.yields(0));
        Check.noState("apart of a new log", () -> saw.apart(0, 0));
        Check.same("worth of a new log", saw.worth(0), 0);
        Check.same("run of a new log", saw.run(), 0);
    }

    private static void promise2Cell() {
        SawGrids saw = new SawGrids(3, 0);
        Check.no("out of out", saw.cell(0, 1, 2, false));
        Check.yes("in at 0", saw.cell(0, 1, 2, true));
        Check.no("in at 0 again", saw.cell(0, 1, 2, true));
        Check.yes("x and y are not the same", saw.cell(0, 2, 1, true));
        Check.yes("in at 1 is another", saw.cell(1, 1, 2, true));
        Check.yes("out at 0", saw.cell(0, 1, 2, false));
        Check.no("out at 0 again", saw.cell(0, 1, 2, false));
        Check.no("still in at 1", saw.cell(1, 1, 2, true));
    }

    private static void promise2Wrong() {
        SawGrids saw = new SawGrids(3, 0);
        for (int wild : Logs.WILD) {
            if (wild < 0 || wild > 1) {
                Check.noIndex("end " + wild, () -> saw.cell(wild, 0, 0, true));
            }
            if (wild < 0 || wild > 2) {
                Check.noIndex("x " + wild, () -> saw.cell(0, wild, 0, true));
                Check.noIndex("y " + wild, () -> saw.cell(1, 0, wild, true));
            }
        }
        Check.noIndex("x 3", () -> saw.cell(0, 3, 0, true));
    }

    private static void promise3Span() {
        SawGrids saw = new SawGrids(6, 0);
        saw.span(0, 2, 1, 4);
        for (int x = 0; x < 6; x++) {
            Check.same("in of a span, x " + x, saw.cell(0, x, 2, true) ? 1 : 0, x >= 1 && x < 4 ? 0 : 1);
            Check.yes("other row of a span, x " + x, saw.cell(0, x, 3, true));
            Check.yes("other end of a span, x " + x, saw.cell(1, x, 2, true));
        }
        SawGrids empty = new SawGrids(6, 0);
        empty.span(0, 0, 0, 0);
        empty.span(0, 0, 6, 6);
        empty.span(1, 5, 3, 3);
        for (int x = 0; x < 6; x++) {
            Check.yes("empty span, x " + x, empty.cell(0, x, 0, true));
        }
        empty.span(0, 0, 2, 3);
        Check.no("a span takes no cell out", empty.cell(0, 0, 0, true));
    }

    private static void promise3Wrong() {
        SawGrids saw = new SawGrids(6, 0);
        for (int wild : Logs.WILD) {
            if (wild < 0 || wild > 1) {
                Check.noIndex("span's end " + wild, () -> saw.span(wild, 0, 0, 6));
            }
            if (wild < 0 || wild > 6) {
                Check.noIndex("span's row " + wild, () -> saw.span(0, wild, 0, 6));
                Check.noArgument("span's from " + wild, () -> saw.span(0, 0, wild, 6));
                Check.noArgument("span's to " + wild, () -> saw.span(0, 0, 0, wild));
                Check.noArgument("span's from and to " + wild, () -> saw.span(0, 0, wild, wild));
            }
        }
        Check.noIndex("row 6", () -> saw.span(0, 6, 0, 6));
        Check.noArgument("to before from", () -> saw.span(0, 0, 3, 2));
        Check.noArgument("from 7", () -> saw.span(0, 0, 7, 7));
        Check.noIndex("index first", () -> saw.span(2, 0, -1, 9));
        Check.noIndex("row first", () -> saw.span(0, -1, 3, 2));
        Check.yes("nothing was spanned", saw.cell(0, 0, 0, true));
    }

    private static void promise4Knot() {
        SawGrids saw = new SawGrids(4, 0);
        Check.no("no knot is loss 0", saw.knot(1, 3, 0));
        Check.yes("a knot", saw.knot(1, 3, 5));
        Check.no("the same knot", saw.knot(1, 3, 5));
        Check.yes("another cell's knot", saw.knot(3, 1, 5));
        Check.yes("the greatest knot", saw.knot(1, 3, 10000));
        Check.yes("no knot again", saw.knot(1, 3, 0));
    }

    private static void promise4Wrong() {
        SawGrids saw = new SawGrids(4, 0);
        for (int wild : Logs.WILD) {
            if (wild < 0 || wild > 3) {
                Check.noIndex("knot's x " + wild, () -> saw.knot(wild, 0, 1));
                Check.noIndex("knot's y " + wild, () -> saw.knot(0, wild, 1));
                Check.noIndex("index before loss, x " + wild, () -> saw.knot(wild, 0, -1));
            }
            if (wild < 0 || wild > 10000) {
                Check.noArgument("loss " + wild, () -> saw.knot(0, 0, wild));
            }
        }
        Check.noIndex("x 4", () -> saw.knot(4, 0, 1));
        Check.no("no knot came of it", saw.knot(0, 0, 0));
    }

    private static void promise5Size() {
        SawGrids saw = new SawGrids(2, 0);
        for (int k = 0; k < 8; k++) {
            Check.same("number of a size", saw.size(1 + k % 2 * 19, 20 - k % 2 * 19, k * 14285, k * 57), k);
        }
        Check.noState("a ninth size", () -> saw.size(1, 1, 1, 1));
        Check.noArgument("a wrong ninth size", () -> saw.size(1, 1, 1, 401));
        Check.no("the eighth is there", saw.may(7, 0, 0, 0));
        Check.noIndex("the ninth is not", () -> saw.may(8, 0, 0, 0));
        SawGrids edges = new SawGrids(20, 0);
        Check.same("least size", edges.size(1, 1, 0, 0), 0);
        Check.same("greatest size", edges.size(20, 20, 100000, 400), 1);
        Check.same("boards of no wood at all", edges.run(), 1);
        Logs.isBoard("greatest size", edges, 0, 1, 0, 0, 20, 20, 100000, 400);
    }

    private static void promise5Wrong() {
        SawGrids saw = new SawGrids(5, 0);
        for (int wild : Logs.WILD) {
            if (wild < 1 || wild > 20) {
                Check.noArgument("thick " + wild, () -> saw.size(wild, 1, 1, 1));
                Check.noArgument("wide " + wild, () -> saw.size(1, wild, 1, 1));
            }
            if (wild < 0 || wild > 100000) {
                Check.noArgument("worth " + wild, () -> saw.size(1, 1, wild, 1));
            }
            if (wild < 0 || wild > 400) {
                Check.noArgument("wane " + wild, () -> saw.size(1, 1, 1, wild));
            }
        }
        Check.noIndex("no size came of it", () -> saw.may(0, 0, 0, 0));
    }

    private static void promise13Wood() {
        SawGrids saw = new SawGrids(4, 0);
        saw.span(0, 0, 0, 4);
        Check.same("in at end 0 alone", saw.wood(), 0);
        saw.span(1, 0, 1, 3);
        saw.span(1, 1, 0, 4);
        Check.same("in at both", saw.wood(), 2);
        saw.cell(1, 3, 0, true);
        Check.same("one more", saw.wood(), 3);
        saw.cell(0, 1, 0, false);
        Check.same("one less", saw.wood(), 2);
        saw.knot(2, 0, 10000);
        Check.same("a knot is wood", saw.wood(), 2);
        Check.same("a whole log", Logs.whole(20, 0).wood(), 400);
        Check.same("the least log", Logs.whole(1, 0).wood(), 1);
    }

    private static void refusedCallsChangeNothing() {
        SawGrids saw = Logs.whole(4, 1);
        saw.size(1, 4, 10, 0);
        Check.same("sawn", saw.run(), 2);
        Check.noIndex("wrong cell", () -> saw.cell(0, 4, 0, false));
        Check.noIndex("wrong span", () -> saw.span(0, 4, 0, 4));
        Check.noArgument("wrong span", () -> saw.span(0, 0, 1, 5));
        Check.noIndex("wrong knot", () -> saw.knot(-1, 0, 3));
        Check.noArgument("wrong knot", () -> saw.knot(0, 0, 10001));
        Check.noArgument("wrong size", () -> saw.size(1, 1, 100001, 0));
        Check.noIndex("wrong worth", () -> saw.worth(2));
        Check.noIndex("wrong may", () -> saw.may(1, 0, 0, 0));
        Logs.isAll("still sawn", saw, 20, 0, 2, 2);
        for (int k = 1; k < 8; k++) {
            saw.size(1, 1, 0, 0);
        }
        Check.same("sawn again", saw.run(), 2);
        Check.noState("a ninth size", () -> saw.size(1, 1, 1, 0));
        Logs.isAll("sawn with eight sizes", saw, 20, 0, 2, 2);
    }

    private static void toldCallsEndWhatWasSawn() {
        SawGrids saw = Logs.whole(4, 1);
        saw.size(1, 4, 10, 0);
        saw.run();
        saw.cell(0, 0, 0, false);
        isUnsawn("cell", saw);
        saw.span(0, 0, 0, 1);
        isUnsawn("span", saw);
        saw.knot(0, 0, 1);
        isUnsawn("knot", saw);
        saw.size(1, 4, 10, 0);
        isUnsawn("size", saw);
        // What is told again is told too, even if nothing is new in it.
        saw.cell(0, 0, 0, true);
        isUnsawn("cell again", saw);
        saw.knot(0, 0, 1);
        isUnsawn("knot again", saw);
        saw.span(0, 0, 2, 2);
        isUnsawn("empty span", saw);
        saw.wood();
        saw.may(0, 0, 0, 0);
        saw.worth(1);
        Check.same("questions tell nothing", saw.all(3), 2);
    }

    private static void isUnsawn(String what, SawGrids saw) {
        Check.noState("board after " + what, () -> saw.board(0, 0));
        Check.noState("all after " + what, () -> saw.all(0));
        Check.noState("yields after " + what, () -> saw.yields(0));
        Check.noState("apart after " + what, () -> saw.apart(0, 0));
        saw.run();
    }
}
