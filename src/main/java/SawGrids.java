/**
 * A log sawn on a grid: the best flat pattern of slabs and boards, lying or turned by a quarter.
 *
 * Every row that a call needs is made in the constructor, so that calls make no objects of their own.
 */
public final class SawGrids {

    public static final int NONE = -1;

    private static final int MOST_SIDE = 20;
    private static final int MOST_KERF = 4;
    private static final int MOST_LENGTH = 20;
    private static final int MOST_LOSS = 10000;
    private static final int MOST_WORTH = 100000;
    private static final int MOST_WANE = 400;
    private static final int MOST_SIZES = 8;

    private static final int LYING = 0;
    private static final int TURNED = 1;

    private final int kerf;
    private final Log log;
    private final Sizes sizes;
    private final Boards boards;
    private final Bench bench;
    private final Pattern pattern;
    private boolean sawn;

    public SawGrids(int side, int kerf) {
        int nearestSide = Math.max(1, Math.min(MOST_SIDE, side));
        this.kerf = Math.max(0, Math.min(MOST_KERF, kerf));
        log = new Log(nearestSide);
        sizes = new Sizes();
        boards = new Boards(log, sizes);
        bench = new Bench(boards, nearestSide, this.kerf);
        pattern = new Pattern(nearestSide * nearestSide);
    }

    public boolean cell(int end, int x, int y, boolean in) throws IndexOutOfBoundsException {
        if (!isEnd(end) || !log.isCell(x, y)) {
            throw new IndexOutOfBoundsException("no such end or cell");
        }
        sawn = false;
        return log.mark(end, x, y, in);
    }

    public void span(int end, int y, int from, int to)
            throws IndexOutOfBoundsException, IllegalArgumentException {
        if (!isEnd(end) || !log.isCell(0, y)) {
            throw new IndexOutOfBoundsException("no such end or row");
        }
        if (!isWithin(from, 0, log.side) || !isWithin(to, from, log.side)) {
            throw new IllegalArgumentException("from is not 0 .. side, or to not from .. side");
        }
        sawn = false;
        for (int x = from; x < to; x++) {
            log.mark(end, x, y, true);
        }
    }

    public boolean knot(int x, int y, int loss) throws IndexOutOfBoundsException, IllegalArgumentException {
        if (!log.isCell(x, y)) {
            throw new IndexOutOfBoundsException("no such cell");
        }
        if (!isWithin(loss, 0, MOST_LOSS)) {
            throw new IllegalArgumentException("loss is not 0 .. 10000");
        }
        sawn = false;
        return log.tie(x, y, loss);
    }

    public int size(int thick, int wide, int worth, int wane)
            throws IllegalArgumentException, IllegalStateException {
        if (!isWithin(thick, 1, MOST_LENGTH) || !isWithin(wide, 1, MOST_LENGTH)) {
            throw new IllegalArgumentException("thick or wide is not 1 .. 20");
        }
        if (!isWithin(worth, 0, MOST_WORTH) || !isWithin(wane, 0, MOST_WANE)) {
            throw new IllegalArgumentException("worth is not 0 .. 100000, or wane not 0 .. 400");
        }
        if (sizes.count >= MOST_SIZES) {
            throw new IllegalStateException("there are 8 sizes");
        }
        sawn = false;
        return sizes.add(thick, wide, worth, wane);
    }

    public int run() {
        log.sumUp();
        long turned = bench.plan(TURNED);
        long lying = bench.plan(LYING);
        if (turned > lying) {
            // The bench holds one turn at a time, and the lying one was planned last.
            bench.plan(TURNED);
        }
        bench.layOut(pattern);
        sawn = true;
        return pattern.count;
    }

    public int board(int k, int what) throws IllegalStateException, IndexOutOfBoundsException {
        refuseUnsawn();
        refuseNoBoard(k);
        int size = pattern.sizeOf[k];
        int x = pattern.xOf[k];
        int y = pattern.yOf[k];
        switch (what) {
            case 0:
                return size;
            case 1:
                return x;
            case 2:
                return y;
            case 3:
                return sizes.alongX(size, pattern.turn);
            case 4:
                return sizes.alongY(size, pattern.turn);
            case 5:
                return boards.valueAt(size, x, y, pattern.turn);
            case 6:
                return boards.bareAt(size, x, y, pattern.turn);
            default:
                throw new IndexOutOfBoundsException("no such what of a board");
        }
    }

    public int all(int what) throws IllegalStateException, IndexOutOfBoundsException {
        refuseUnsawn();
        switch (what) {
            case 0:
                return pattern.value;
            case 1:
                return pattern.turn;
            case 2:
                return pattern.slabs;
            case 3:
                return pattern.count;
            default:
                throw new IndexOutOfBoundsException("no such what of all");
        }
    }

    public int worth(int turn) throws IndexOutOfBoundsException {
        if (!isTurn(turn)) {
            throw new IndexOutOfBoundsException("no such turn");
        }
        log.sumUp();
        return Bench.valueOf(bench.plan(turn));
    }

    public int yields(int part) throws IllegalStateException, IndexOutOfBoundsException {
        refuseUnsawn();
        if (!isWithin(part, 0, 1)) {
            throw new IndexOutOfBoundsException("no such part");
        }
        int woodCells = log.woodCells();
        if (woodCells == 0) {
            return part == 0 ? 0 : 1;
        }
        int divisor = Math.max(1, commonDivisor(pattern.cells, woodCells));
        return (part == 0 ? pattern.cells : woodCells) / divisor;
    }

    public boolean may(int size, int x, int y, int turn) throws IndexOutOfBoundsException {
        if (!sizes.has(size) || !isTurn(turn)) {
            throw new IndexOutOfBoundsException("no such size or turn");
        }
        log.sumUp();
        return boards.fits(size, x, y, turn);
    }

    public boolean apart(int a, int b) throws IllegalStateException, IndexOutOfBoundsException {
        refuseUnsawn();
        refuseNoBoard(a);
        refuseNoBoard(b);
        int sizeA = pattern.sizeOf[a];
        int sizeB = pattern.sizeOf[b];
        return areApart(pattern.xOf[a], sizes.alongX(sizeA, pattern.turn),
                        pattern.xOf[b], sizes.alongX(sizeB, pattern.turn))
            || areApart(pattern.yOf[a], sizes.alongY(sizeA, pattern.turn),
                        pattern.yOf[b], sizes.alongY(sizeB, pattern.turn));
    }

    public int wood() {
        log.sumUp();
        return log.woodCells();
    }

    private void refuseUnsawn() {
        if (!sawn) {
            throw new IllegalStateException("nothing was sawn since something was told");
        }
    }

    private void refuseNoBoard(int k) {
        if (!isWithin(k, 0, pattern.count - 1)) {
            throw new IndexOutOfBoundsException("no such board");
        }
    }

    private boolean areApart(int beginA, int lengthA, int beginB, int lengthB) {
        return beginA + lengthA + kerf <= beginB || beginB + lengthB + kerf <= beginA;
    }

    private static boolean isWithin(int number, int least, int most) {
        return number >= least && number <= most;
    }

    private static boolean isEnd(int end) {
        return isWithin(end, 0, 1);
    }

    private static boolean isTurn(int turn) {
        return isWithin(turn, LYING, TURNED);
    }

    private static int commonDivisor(int a, int b) {
        int greater = a;
        int lesser = b;
        // Euclid's steps on numbers up to 400 are far fewer than this bound.
        for (int step = 0; step < 1000 && lesser != 0; step++) {
            int rest = greater % lesser;
            greater = lesser;
            lesser = rest;
        }
        return greater;
    }

    /** The grid: which cells are in at each end, and their knots. */
    private static final class Log {
        final int side;
        private final boolean[] inAtEnd;
        private final int[] lossOf;
        // What the cells above and to the left of a corner add up to, so that a board's sums take four looks.
        final int[] bareBefore;
        final int[] lossBefore;
        private boolean summed;

        Log(int side) {
            this.side = side;
            inAtEnd = new boolean[2 * side * side];
            lossOf = new int[side * side];
            bareBefore = new int[(side + 1) * (side + 1)];
            lossBefore = new int[(side + 1) * (side + 1)];
        }

        boolean isCell(int x, int y) {
            return isWithin(x, 0, side - 1) && isWithin(y, 0, side - 1);
        }

        boolean mark(int end, int x, int y, boolean in) {
            int place = end * side * side + y * side + x;
            boolean isNew = inAtEnd[place] != in;
            inAtEnd[place] = in;
            summed = false;
            return isNew;
        }

        boolean tie(int x, int y, int loss) {
            int place = y * side + x;
            boolean isNew = lossOf[place] != loss;
            lossOf[place] = loss;
            summed = false;
            return isNew;
        }

        int woodCells() {
            return side * side - sumIn(bareBefore, 0, 0, side, side);
        }

        /** NONE if not all of it is on the grid. */
        int sumIn(int[] before, int x, int y, int alongX, int alongY) {
            if (x < 0 || y < 0 || x > side - alongX || y > side - alongY) {
                return NONE;
            }
            int top = y * (side + 1) + x;
            int bottom = (y + alongY) * (side + 1) + x;
            return before[bottom + alongX] - before[bottom] - before[top + alongX] + before[top];
        }

        /** Calls that look at sums begin with this: what is told only makes the sums stale, as it comes often. */
        void sumUp() {
            if (summed) {
                return;
            }
            for (int y = 0; y < side; y++) {
                sumUpRow(y);
            }
            summed = true;
        }

        private void sumUpRow(int y) {
            int bare = 0;
            int loss = 0;
            for (int x = 0; x < side; x++) {
                int place = y * side + x;
                bare += inAtEnd[place] && inAtEnd[side * side + place] ? 0 : 1;
                loss += lossOf[place];
                int above = y * (side + 1) + x + 1;
                int corner = above + side + 1;
                bareBefore[corner] = bareBefore[above] + bare;
                lossBefore[corner] = lossBefore[above] + loss;
            }
        }
    }

    /** The sizes of boards, as they are told. */
    private static final class Sizes {
        final int[] thickOf = new int[MOST_SIZES];
        final int[] wideOf = new int[MOST_SIZES];
        final int[] worthOf = new int[MOST_SIZES];
        final int[] waneOf = new int[MOST_SIZES];
        int count;

        boolean has(int size) {
            return isWithin(size, 0, count - 1);
        }

        boolean haveThickness(int thick) {
            for (int size = 0; size < count; size++) {
                if (thickOf[size] == thick) {
                    return true;
                }
            }
            return false;
        }

        int add(int thick, int wide, int worth, int wane) {
            if (count >= MOST_SIZES) {
                return NONE;
            }
            thickOf[count] = thick;
            wideOf[count] = wide;
            worthOf[count] = worth;
            waneOf[count] = wane;
            count++;
            return count - 1;
        }

        int alongX(int size, int turn) {
            return turn == LYING ? wideOf[size] : thickOf[size];
        }

        int alongY(int size, int turn) {
            return turn == LYING ? thickOf[size] : wideOf[size];
        }
    }

    /** What a board of a size is at a place on the log. */
    private static final class Boards {
        final Sizes sizes;
        private final Log log;

        Boards(Log log, Sizes sizes) {
            this.log = log;
            this.sizes = sizes;
        }

        boolean fits(int size, int x, int y, int turn) {
            int bare = log.sumIn(log.bareBefore, x, y, sizes.alongX(size, turn), sizes.alongY(size, turn));
            return bare != NONE && bare <= sizes.waneOf[size];
        }

        int bareAt(int size, int x, int y, int turn) {
            return log.sumIn(log.bareBefore, x, y, sizes.alongX(size, turn), sizes.alongY(size, turn));
        }

        int valueAt(int size, int x, int y, int turn) {
            int loss = log.sumIn(log.lossBefore, x, y, sizes.alongX(size, turn), sizes.alongY(size, turn));
            return Math.max(0, sizes.worthOf[size] - loss);
        }
    }

    /**
     * The tables of one turn. Words are those of a lying pattern: a row is where a slab may begin and a
     * column where a board in it may; of a turned pattern they stand for x and y.
     *
     * A rank is a sum of what boards are worth by RANK less how many boards they are: a greater rank is the
     * better, and ranks of parts add up to the rank of the whole.
     */
    private static final class Bench {
        private static final long RANK = 1000;

        private final Boards boards;
        private final Sizes sizes;
        private final int side;
        private final int kerf;
        private int turn;
        private final long[] rankFromRow;
        private final int[] thickAtRow;
        private final long[] rankFromColumn;
        private final int[] sizeAtColumn;

        Bench(Boards boards, int side, int kerf) {
            this.boards = boards;
            this.sizes = boards.sizes;
            this.side = side;
            this.kerf = kerf;
            rankFromRow = new long[side + 1];
            thickAtRow = new int[side];
            rankFromColumn = new long[side + 1];
            sizeAtColumn = new int[side];
        }

        static int valueOf(long rank) {
            return (int) ((rank + RANK - 1) / RANK);
        }

        long plan(int ofTurn) {
            turn = ofTurn;
            for (int row = side - 1; row >= 0; row--) {
                planRow(row);
            }
            return rankFromRow[0];
        }

        private void planRow(int row) {
            long best = rankFromRow[row + 1];
            int bestThick = 0;
            for (int thick = 1; thick <= side - row; thick++) {
                long slab = sizes.haveThickness(thick) ? planSlab(row, thick) : 0;
                long rank = slab + rankFromRow[Math.min(side, row + thick + kerf)];
                // Boards of no worth only lower a rank, so a slab's best has no board just if its rank is 0.
                if (slab > 0 && (rank > best || rank == best && bestThick == 0)) {
                    best = rank;
                    bestThick = thick;
                }
            }
            rankFromRow[row] = best;
            thickAtRow[row] = bestThick;
        }

        private long planSlab(int row, int thick) {
            for (int column = side - 1; column >= 0; column--) {
                planColumn(row, column, thick);
            }
            return rankFromColumn[0];
        }

        private void planColumn(int row, int column, int thick) {
            long best = rankFromColumn[column + 1];
            int bestSize = NONE;
            for (int size = 0; size < sizes.count; size++) {
                if (sizes.thickOf[size] != thick || !boards.fits(size, xAt(row, column), yAt(row, column), turn)) {
                    continue;
                }
                long rank = boards.valueAt(size, xAt(row, column), yAt(row, column), turn) * RANK - 1
                    + rankFromColumn[Math.min(side, column + sizes.wideOf[size] + kerf)];
                if (rank > best || rank == best && bestSize == NONE) {
                    best = rank;
                    bestSize = size;
                }
            }
            rankFromColumn[column] = best;
            sizeAtColumn[column] = bestSize;
        }

        private int xAt(int row, int column) {
            return turn == LYING ? column : row;
        }

        private int yAt(int row, int column) {
            return turn == LYING ? row : column;
        }

        void layOut(Pattern pattern) {
            pattern.clear(turn);
            int free = 0;
            for (int row = 0; row < side; row++) {
                int thick = thickAtRow[row];
                if (row >= free && thick > 0) {
                    pattern.slabs++;
                    layOutSlab(pattern, row, thick);
                    free = row + thick + kerf;
                }
            }
        }

        private void layOutSlab(Pattern pattern, int row, int thick) {
            // The columns' tables are those of the slab that was planned last.
            planSlab(row, thick);
            int free = 0;
            for (int column = 0; column < side; column++) {
                int size = sizeAtColumn[column];
                if (column >= free && sizes.has(size)) {
                    layOutBoard(pattern, size, xAt(row, column), yAt(row, column));
                    free = column + sizes.wideOf[size] + kerf;
                }
            }
        }

        private void layOutBoard(Pattern pattern, int size, int x, int y) {
            pattern.add(size, x, y);
            pattern.value += boards.valueAt(size, x, y, turn);
            pattern.cells += sizes.thickOf[size] * sizes.wideOf[size];
        }
    }

    /** The boards that were sawn, slab by slab. */
    private static final class Pattern {
        final int[] sizeOf;
        final int[] xOf;
        final int[] yOf;
        int turn;
        int slabs;
        int count;
        int value;
        int cells;

        Pattern(int mostBoards) {
            sizeOf = new int[mostBoards];
            xOf = new int[mostBoards];
            yOf = new int[mostBoards];
        }

        void clear(int ofTurn) {
            turn = ofTurn;
            slabs = 0;
            count = 0;
            value = 0;
            cells = 0;
        }

        void add(int size, int x, int y) {
            if (count >= sizeOf.length) {
                return;
            }
            sizeOf[count] = size;
            xOf[count] = x;
            yOf[count] = y;
            count++;
        }
    }
}
