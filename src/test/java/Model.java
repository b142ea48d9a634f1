import java.util.ArrayList;
import java.util.List;

/**
 * The document written a second time, as plainly as it goes and by other ways than the class: every board's cells
 * are looked at one by one, and the best pattern is grown from the first row on as a list of boards that is compared
 * with others by the document's order.
 */
final class Model {
    /** across is where a board's slab begins, along where the board begins in it. */
    record Laid(int size, int across, int along) {
    }

    /** Boards in their order, all of one turn. */
    record Sawn(int turn, int worth, List<Laid> boards) {
    }

    private final int side;
    private final int kerf;
    private final boolean[][][] in;
    private final int[][] loss;
    private final List<int[]> sizes = new ArrayList<>();
    private Sawn sawn;

    Model(int side, int kerf) {
        this.side = side < 1 ? 1 : side > 20 ? 20 : side;
        this.kerf = kerf < 0 ? 0 : kerf > 4 ? 4 : kerf;
        in = new boolean[2][this.side][this.side];
        loss = new int[this.side][this.side];
    }

    boolean cell(int end, int x, int y, boolean isIn) {
        index(end == 0 || end == 1);
        index(x >= 0 && x < side && y >= 0 && y < side);
        boolean isNew = in[end][y][x] != isIn;
        in[end][y][x] = isIn;
        sawn = null;
        return isNew;
    }

    void span(int end, int y, int from, int to) {
        index(end == 0 || end == 1);
        index(y >= 0 && y < side);
        argument(from >= 0 && from <= side && to >= from && to <= side);
        for (int x = from; x < to; x++) {
            in[end][y][x] = true;
        }
        sawn = null;
    }

    boolean knot(int x, int y, int itsLoss) {
        index(x >= 0 && x < side && y >= 0 && y < side);
        argument(itsLoss >= 0 && itsLoss <= 10000);
        boolean isAnother = loss[y][x] != itsLoss;
        loss[y][x] = itsLoss;
        sawn = null;
        return isAnother;
    }

    int size(int thick, int wide, int worth, int wane) {
        argument(thick >= 1 && thick <= 20 && wide >= 1 && wide <= 20);
        argument(worth >= 0 && worth <= 100000 && wane >= 0 && wane <= 400);
        state(sizes.size() < 8);
        sizes.add(new int[] {thick, wide, worth, wane});
        sawn = null;
        return sizes.size() - 1;
    }

    int run() {
        Sawn lying = best(0);
        Sawn turned = best(1);
        boolean isTurned = turned.worth > lying.worth
            || turned.worth == lying.worth && turned.boards.size() < lying.boards.size();
        sawn = isTurned ? turned : lying;
        return sawn.boards.size();
    }

    int board(int k, int what) {
        state(sawn != null);
        index(k >= 0 && k < sawn.boards.size());
        index(what >= 0 && what <= 6);
        Laid one = sawn.boards.get(k);
        boolean lies = sawn.turn == 0;
        int[] size = sizes.get(one.size);
        int[] answers = {
            one.size, lies ? one.along : one.across, lies ? one.across : one.along,
            lies ? size[1] : size[0], lies ? size[0] : size[1], worthOf(one, sawn.turn), bareOf(one, sawn.turn)
        };
        return answers[what];
    }

    int all(int what) {
        state(sawn != null);
        index(what >= 0 && what <= 3);
        int slabs = 0;
        for (int k = 0; k < sawn.boards.size(); k++) {
            slabs += k == 0 || sawn.boards.get(k).across != sawn.boards.get(k - 1).across ? 1 : 0;
        }
        return new int[] {sawn.worth, sawn.turn, slabs, sawn.boards.size()}[what];
    }

    int worth(int turn) {
        index(turn == 0 || turn == 1);
        return best(turn).worth;
    }

    int yields(int part) {
        state(sawn != null);
        index(part == 0 || part == 1);
        int wood = wood();
        int cells = 0;
        for (Laid one : sawn.boards) {
            cells += sizes.get(one.size)[0] * sizes.get(one.size)[1];
        }
        if (wood == 0) {
            return part;
        }
        for (int by = 400; by > 1; by--) {
            if (cells % by == 0 && wood % by == 0) {
                return (part == 0 ? cells : wood) / by;
            }
        }
        return part == 0 ? cells : wood;
    }

    boolean may(int size, int x, int y, int turn) {
        index(size >= 0 && size < sizes.size());
        index(turn == 0 || turn == 1);
        return fits(new Laid(size, turn == 0 ? y : x, turn == 0 ? x : y), turn);
    }

    boolean apart(int a, int b) {
        state(sawn != null);
        index(a >= 0 && a < sawn.boards.size());
        index(b >= 0 && b < sawn.boards.size());
        return gap(board(a, 1), board(a, 3), board(b, 1), board(b, 3)) >= kerf
            || gap(board(a, 2), board(a, 4), board(b, 2), board(b, 4)) >= kerf;
    }

    int wood() {
        int wood = 0;
        for (int y = 0; y < side; y++) {
            for (int x = 0; x < side; x++) {
                wood += in[0][y][x] && in[1][y][x] ? 1 : 0;
            }
        }
        return wood;
    }

    private static void index(boolean isThere) {
        if (!isThere) {
            throw new IndexOutOfBoundsException();
        }
    }

    private static void argument(boolean isAsSaid) {
        if (!isAsSaid) {
            throw new IllegalArgumentException();
        }
    }

    private static void state(boolean isSo) {
        if (!isSo) {
            throw new IllegalStateException();
        }
    }

    /** Cells between two; below 0 if they share some. */
    private static int gap(int beginA, int lengthA, int beginB, int lengthB) {
        return Math.max(beginA, beginB) - Math.min(beginA + lengthA, beginB + lengthB);
    }

    private boolean fits(Laid one, int turn) {
        int[] size = sizes.get(one.size);
        return one.across >= 0 && one.along >= 0
            && (long) one.across + size[0] <= side && (long) one.along + size[1] <= side
            && bareOf(one, turn) <= size[3];
    }

    private int bareOf(Laid one, int turn) {
        int bare = 0;
        for (int k = 0; k < cellsOf(one); k++) {
            int x = xOf(one, turn, k);
            int y = yOf(one, turn, k);
            bare += in[0][y][x] && in[1][y][x] ? 0 : 1;
        }
        return bare;
    }

    private int worthOf(Laid one, int turn) {
        int worth = sizes.get(one.size)[2];
        for (int k = 0; k < cellsOf(one); k++) {
            worth -= loss[yOf(one, turn, k)][xOf(one, turn, k)];
        }
        return worth < 0 ? 0 : worth;
    }

    private int cellsOf(Laid one) {
        return sizes.get(one.size)[0] * sizes.get(one.size)[1];
    }

    private int xOf(Laid one, int turn, int k) {
        int wide = sizes.get(one.size)[1];
        return turn == 0 ? one.along + k % wide : one.across + k / wide;
    }

    private int yOf(Laid one, int turn, int k) {
        int wide = sizes.get(one.size)[1];
        return turn == 0 ? one.across + k / wide : one.along + k % wide;
    }

    /** upTo.get(e) is the best of slabs that end at row e (not itself) or before. */
    private Sawn best(int turn) {
        List<Sawn> upTo = new ArrayList<>();
        upTo.add(new Sawn(turn, 0, List.of()));
        for (int end = 1; end <= side; end++) {
            Sawn best = upTo.get(end - 1);
            for (int thick = 1; thick <= end; thick++) {
                Sawn slab = bestSlab(turn, end - thick, thick);
                if (!slab.boards.isEmpty()) {
                    best = better(best, joined(upTo.get(Math.max(0, end - thick - kerf)), slab));
                }
            }
            upTo.add(best);
        }
        return upTo.get(side);
    }

    private Sawn bestSlab(int turn, int row, int thick) {
        List<Sawn> upTo = new ArrayList<>();
        upTo.add(new Sawn(turn, 0, List.of()));
        for (int end = 1; end <= side; end++) {
            Sawn best = upTo.get(end - 1);
            for (int size = 0; size < sizes.size(); size++) {
                Laid one = new Laid(size, row, end - sizes.get(size)[1]);
                if (sizes.get(size)[0] == thick && fits(one, turn)) {
                    Sawn board = new Sawn(turn, worthOf(one, turn), List.of(one));
                    best = better(best, joined(upTo.get(Math.max(0, one.along - kerf)), board));
                }
            }
            upTo.add(best);
        }
        return upTo.get(side);
    }

    private static Sawn joined(Sawn first, Sawn then) {
        List<Laid> boards = new ArrayList<>(first.boards);
        boards.addAll(then.boards);
        return new Sawn(first.turn, first.worth + then.worth, boards);
    }

    private Sawn better(Sawn a, Sawn b) {
        if (a.worth != b.worth) {
            return a.worth > b.worth ? a : b;
        }
        if (a.boards.size() != b.boards.size()) {
            return a.boards.size() < b.boards.size() ? a : b;
        }
        for (int k = 0; k < a.boards.size(); k++) {
            int order = order(a.boards.get(k), b.boards.get(k));
            if (order != 0) {
                return order < 0 ? a : b;
            }
        }
        return a;
    }

    /** Of the first two boards that differ the one of the pattern that comes first is less. */
    private int order(Laid a, Laid b) {
        if (a.across != b.across) {
            return Integer.compare(a.across, b.across);
        }
        int thickA = sizes.get(a.size)[0];
        int thickB = sizes.get(b.size)[0];
        if (thickA != thickB) {
            return Integer.compare(thickA, thickB);
        }
        return a.along != b.along ? Integer.compare(a.along, b.along) : Integer.compare(a.size, b.size);
    }
}
