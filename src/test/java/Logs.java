/** Logs that several tests saw, and numbers that they try. */
final class Logs {
    private Logs() {
    }

    /** Numbers that are not least .. most: its neighbours, those that wrap around to it, and the farthest. */
    static int[] outside(int least, int most) {
        return new int[] {
            least - 1, least - 2, most + 1, most + 2, least - 400, most + 400, least - 65536, most + 65536,
            least + (1 << 31), most - (1 << 30) - (1 << 30), Integer.MIN_VALUE, Integer.MIN_VALUE + 1,
            Integer.MAX_VALUE - 1, Integer.MAX_VALUE
        };
    }

    /** A log that is wood all over. */
    static SawGrids whole(int side, int kerf) {
        SawGrids saw = new SawGrids(side, kerf);
        for (int y = 0; y < side; y++) {
            saw.span(0, y, 0, side);
            saw.span(1, y, 0, side);
        }
        return saw;
    }

    /** A log whose one row is wood from one column to another one (not itself). */
    static SawGrids row(int side, int kerf, int y, int from, int to) {
        SawGrids saw = new SawGrids(side, kerf);
        addWood(saw, y, from, to);
        return saw;
    }

    static void addWood(SawGrids saw, int y, int from, int to) {
        saw.span(0, y, from, to);
        saw.span(1, y, from, to);
    }

    static void isBoard(String what, SawGrids saw, int k, int... due) {
        for (int i = 0; i < due.length; i++) {
            Check.same(what + ", board " + k + ", what " + i, saw.board(k, i), due[i]);
        }
    }

    static void isAll(String what, SawGrids saw, int... due) {
        for (int i = 0; i < due.length; i++) {
            Check.same(what + ", all " + i, saw.all(i), due[i]);
        }
    }

    /** Nothing can be asked of what was sawn, whatever the arguments. */
    static void isUnsawn(String what, SawGrids saw) {
        Check.noState("board after " + what, () -> saw.board(0, 0));
        Check.noState("all after " + what, () -> saw.all(0));
        Check.noState("yields after " + what, () -> saw.yields(0));
        Check.noState("apart after " + what, () -> saw.apart(0, 0));
    }
}
