/** Logs that several tests saw. */
final class Logs {
    static final int[] WILD = {
        Integer.MIN_VALUE, Integer.MIN_VALUE + 1, -100000, -2, -1, 0, 1, 2, 19, 20, 21, 400, 401,
        10001, 100001, Integer.MAX_VALUE - 1, Integer.MAX_VALUE
    };

    private Logs() {
    }

    /** A log that is wood all over. */
    static SawGrids whole(int side, int kerf) {
        SawGrids saw = new SawGrids(side, kerf);
        for (int y = 0; y < side; y++) {
            saw.span(0, y, 0, side);
            saw.span(1, y, 0, side);
        }
        return saw;
    }

    static void isBoard(String what, SawGrids saw, int k, int... due) {
        for (int i = 0; i < due.length; i++) {
            Check.same(what + ", board " + k + ", what " + i, saw.board(k, i), due[i]);
        }
    }

    static void isAll(String what, SawGrids saw, int... due) {
        for (int i = 0; i < due.length; i++) {
            Check.same(what + ", all " + i, saw.all(i), due[i]);
        }
    }
}
