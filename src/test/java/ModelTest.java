import java.util.Arrays;

/**
 * All promises against the document's second writing, Model: the same calls on both, up to 512 on each object, and
 * every answer and every refusal is the same.
 */
public final class ModelTest {
    private static final int CALLS = 512;
    private static final String[] TELLS = {"cell", "span", "knot", "size"};
    private static final String[] ASKS = {"board", "all", "worth", "yields", "may", "apart", "wood"};

    private static long seed = 8L;

    public static void main(String[] args) {
        Check.each(ModelTest::logsLikeLogs, ModelTest::anyTellings, ModelTest::largeLogsOfManyBoards);
        Check.end("ModelTest");
    }

    private static void logsLikeLogs() {
        Check.sentence("A log sawn on a grid: cells that are wood at both ends, knots, sizes of boards with worth and wane");
        for (int k = 0; k < 150; k++) {
            Both both = new Both(next(22), next(6));
            both.tellRound();
            both.tellSizes(1 + next(8), 1 + next(8));
            both.call("run");
            for (int asked = 0; asked < 40; asked++) {
                both.callAny(ASKS[next(ASKS.length)]);
            }
            both.mix();
        }
    }

    private static void anyTellings() {
        Check.sentence("Nothing is promised beyond the answers and state changes described above");
        for (int k = 0; k < 150; k++) {
            new Both(1 + next(6), next(3)).mix();
        }
    }

    /** Small boards of worth by their cells: a great many patterns have the same sum and as many boards. */
    private static void largeLogsOfManyBoards() {
        Check.sentence("of several the fewest boards; then, from the first row on: a slab at a row before none");
        for (int k = 0; k < 60; k++) {
            Both both = new Both(12 + next(9), next(3));
            both.tellRound();
            both.tellSizes(8, 4);
            both.call("run");
            both.askOfBoards();
        }
    }

    /** The class and the model, told the same. */
    private static final class Both {
        private final int side;
        private final SawGrids saw;
        private final Model model;
        private final StringBuilder called;
        private int calls;
        private int boards;

        Both(int side, int kerf) {
            this.side = Math.max(1, Math.min(20, side));
            saw = new SawGrids(side, kerf);
            model = new Model(side, kerf);
            called = new StringBuilder("SawGrids(" + side + ", " + kerf + ")");
        }

        /** Two round ends of which the second is a little less, and some knots. */
        void tellRound() {
            for (int y = 0; y < side; y++) {
                int from = Math.min(side / 2, Math.abs(2 * y + 1 - side) * next(3) / 4);
                call("span", 0, y, from, side - from);
                call("span", 1, y, Math.min(side / 2, from + next(2)), side - from);
            }
            for (int k = next(side + 1); k > 0; k--) {
                call("knot", next(side), next(side), next(30));
            }
        }

        void tellSizes(int count, int longest) {
            int each = 1 + next(9);
            for (int k = 0; k < count; k++) {
                int thick = 1 + next(longest);
                int wide = 1 + next(longest);
                int worth = next(3) == 0 ? next(200) : thick * wide * each;
                call("size", thick, wide, worth, next(4) * next(thick * wide));
            }
        }

        /** Of what size the first boards are and where they lie: as many as the calls that are left allow. */
        void askOfBoards() {
            for (int k = 0; k < boards && calls + 9 <= CALLS; k++) {
                call("board", k, 0);
                call("board", k, 1);
                call("board", k, 2);
            }
            for (int what = 0; what <= 3; what++) {
                call("all", what);
            }
            call("yields", 0);
            call("yields", 1);
        }

        /** Tells, saws and asks in turns until the calls are used up; a pattern lives for some questions. */
        void mix() {
            while (calls < CALLS) {
                int of = next(10);
                callAny(of == 0 ? TELLS[next(TELLS.length)] : of == 1 ? "run" : ASKS[next(ASKS.length)]);
            }
        }

        void callAny(String name) {
            switch (name) {
                case "cell" -> call(name, near(2), near(side), near(side), next(4));
                case "span" -> call(name, near(2), near(side), next(side + 1), next(side + 2));
                case "knot" -> call(name, near(side), near(side), next(9) == 0 ? edge(0, 10000) : next(60));
                case "size" -> callAnySize();
                case "board" -> call(name, near(boards), near(7));
                case "all" -> call(name, near(4));
                case "may" -> call(name, near(6), near(side), near(side), near(2));
                case "apart" -> call(name, near(boards), near(boards));
                default -> call(name, near(2));
            }
        }

        private void callAnySize() {
            int of = next(12);
            call("size", of == 0 ? edge(1, 20) : 1 + next(4), of == 1 ? edge(1, 20) : 1 + next(6),
                of == 2 ? edge(0, 100000) : next(300), of == 3 ? edge(0, 400) : next(3));
        }

        void call(String name, int... numbers) {
            calls++;
            called.append(' ').append(name).append(Arrays.toString(numbers));
            String got = Calls.answer(saw, name, numbers);
            String due = Calls.answer(model, name, numbers);
            if (name.equals("run")) {
                boards = Integer.parseInt(due);
            }
            boolean isSame = got.equals(due);
            Check.yes(isSame ? "" : "got " + got + ", due is " + due + ", after " + called, isSame);
        }
    }

    private static int next(int below) {
        seed = seed * 6364136223846793005L + 1442695040888963407L;
        return (int) ((seed >>> 33) % below);
    }

    /** Mostly one of 0 .. count - 1, now and then a number just outside or far from it. */
    private static int near(int count) {
        return next(12) == 0 ? edge(0, count - 1) : next(Math.max(1, count));
    }

    private static int edge(int least, int most) {
        int[] edges = {least - 1, least, most, most + 1, Integer.MIN_VALUE, Integer.MAX_VALUE};
        return edges[next(edges.length)];
    }
}
