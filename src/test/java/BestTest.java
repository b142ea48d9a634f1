import java.util.ArrayList;
import java.util.Arrays;
import java.util.List;

/**
 * Promises 6 to 12 against every pattern there is, on logs so small that all of them can be listed; and the
 * rules of a pattern on logs of every side.
 */
public final class BestTest {
    private static long seed = 20261115L;

    /** What the test itself holds of a log, by the document's words alone. */
    private static final class Told {
        int side;
        int kerf;
        boolean[][] wood;
        int[][] loss;
        int[][] sizes;
        SawGrids saw;
    }

    /** size, across (where its slab begins), along (where it begins in the slab). */
    private record Laid(int size, int across, int along) {
    }

    private static final class Best {
        int worth = -1;
        int[] order;
        List<Laid> laid;
        long seen;
    }

    public static void main(String[] args) {
        Check.sentence("THE BEST pattern of a turn");
        int told = 0;
        for (int k = 0; k < 6000; k++) {
            Told log = tell(1 + next(4), next(3), 1 + next(3), 3);
            told += countsAsListed(log, k) ? 1 : 0;
        }
        Check.yes("logs that were listed: " + told, told > 3000);
        Check.sentence("A PATTERN lying (turn 0)");
        for (int k = 0; k < 400; k++) {
            keepsTheRules(tell(1 + next(20), next(5), 1 + next(8), 8), k);
        }
        Check.end("BestTest");
    }

    private static int next(int below) {
        seed = seed * 6364136223846793005L + 1442695040888963407L;
        return (int) ((seed >>> 33) % below);
    }

    private static Told tell(int side, int kerf, int sizes, int longest) {
        Told log = new Told();
        log.side = side;
        log.kerf = kerf;
        log.saw = new SawGrids(side, kerf);
        log.wood = new boolean[side][side];
        log.loss = new int[side][side];
        int full = next(3);
        for (int y = 0; y < side; y++) {
            log.saw.span(0, y, 0, side);
            log.saw.span(1, y, 0, side);
            for (int x = 0; x < side; x++) {
                log.wood[y][x] = true;
            }
        }
        for (int k = 0; k < full * side; k++) {
            int x = next(side);
            int y = next(side);
            log.saw.cell(next(2), x, y, false);
            log.wood[y][x] = false;
            int knotX = next(side);
            int knotY = next(side);
            log.loss[knotY][knotX] = next(4);
            log.saw.knot(knotX, knotY, log.loss[knotY][knotX]);
        }
        log.sizes = new int[sizes][];
        for (int k = 0; k < sizes; k++) {
            int thick = 1 + next(longest);
            int wide = 1 + next(longest);
            // Worths by the area make many patterns of the same sum.
            int worth = next(3) == 0 ? next(9) : thick * wide * 2;
            log.sizes[k] = new int[] {thick, wide, worth, next(3)};
            Check.same("a size's number", log.saw.size(thick, wide, worth, log.sizes[k][3]), k);
        }
        return log;
    }

    private static int bare(Told log, int size, int across, int along, int turn) {
        int bare = 0;
        for (int a = across; a < across + log.sizes[size][0]; a++) {
            for (int b = along; b < along + log.sizes[size][1]; b++) {
                bare += (turn == 0 ? log.wood[a][b] : log.wood[b][a]) ? 0 : 1;
            }
        }
        return bare;
    }

    private static int value(Told log, int size, int across, int along, int turn) {
        int value = log.sizes[size][2];
        for (int a = across; a < across + log.sizes[size][0]; a++) {
            for (int b = along; b < along + log.sizes[size][1]; b++) {
                value -= turn == 0 ? log.loss[a][b] : log.loss[b][a];
            }
        }
        return Math.max(0, value);
    }

    private static boolean fits(Told log, int size, int across, int along, int turn) {
        return across >= 0 && along >= 0
            && across + log.sizes[size][0] <= log.side && along + log.sizes[size][1] <= log.side
            && bare(log, size, across, along, turn) <= log.sizes[size][3];
    }

    private static boolean countsAsListed(Told log, int k) {
        Best lying = new Best();
        Best turned = new Best();
        if (!list(log, 0, 0, new ArrayList<>(), lying) || !list(log, 1, 0, new ArrayList<>(), turned)) {
            return false;
        }
        String what = "log " + k;
        Check.same(what + " lying", log.saw.worth(0), lying.worth);
        Check.same(what + " turned", log.saw.worth(1), turned.worth);
        boolean turn = turned.worth > lying.worth
            || turned.worth == lying.worth && turned.laid.size() < lying.laid.size();
        isSawn(what, log, turn ? turned : lying, turn ? 1 : 0);
        return true;
    }

    private static void isSawn(String what, Told log, Best best, int turn) {
        Check.same(what + " boards", log.saw.run(), best.laid.size());
        if (log.saw.all(3) != best.laid.size()) {
            return;
        }
        int slabs = 0;
        for (int k = 0; k < best.laid.size(); k++) {
            Laid laid = best.laid.get(k);
            slabs += k == 0 || best.laid.get(k - 1).across() != laid.across() ? 1 : 0;
            int[] size = log.sizes[laid.size()];
            Logs.isBoard(what, log.saw, k, laid.size(),
                turn == 0 ? laid.along() : laid.across(), turn == 0 ? laid.across() : laid.along(),
                turn == 0 ? size[1] : size[0], turn == 0 ? size[0] : size[1],
                value(log, laid.size(), laid.across(), laid.along(), turn),
                bare(log, laid.size(), laid.across(), laid.along(), turn));
        }
        Logs.isAll(what, log.saw, best.worth, turn, slabs, best.laid.size());
    }

    /** Lists all patterns whose slabs begin at a row or below it; gives up where there are too many. */
    private static boolean list(Told log, int turn, int row, List<Laid> laid, Best best) {
        if (row >= log.side) {
            return weigh(log, turn, laid, best);
        }
        if (!list(log, turn, row + 1, laid, best)) {
            return false;
        }
        for (int thick = 1; thick <= log.side - row; thick++) {
            if (!fill(log, turn, row, thick, 0, laid, best)) {
                return false;
            }
        }
        return true;
    }

    private static boolean fill(Told log, int turn, int row, int thick, int column, List<Laid> laid, Best best) {
        if (column >= log.side) {
            boolean some = !laid.isEmpty() && laid.get(laid.size() - 1).across() == row;
            return !some || list(log, turn, row + thick + log.kerf, laid, best);
        }
        if (!fill(log, turn, row, thick, column + 1, laid, best)) {
            return false;
        }
        for (int size = 0; size < log.sizes.length; size++) {
            if (log.sizes[size][0] == thick && fits(log, size, row, column, turn)) {
                laid.add(new Laid(size, row, column));
                boolean more = fill(log, turn, row, thick, column + log.sizes[size][1] + log.kerf, laid, best);
                laid.remove(laid.size() - 1);
                if (!more) {
                    return false;
                }
            }
        }
        return true;
    }

    private static boolean weigh(Told log, int turn, List<Laid> laid, Best best) {
        best.seen++;
        int worth = 0;
        for (Laid one : laid) {
            worth += value(log, one.size(), one.across(), one.along(), turn);
        }
        if (worth >= best.worth) {
            int[] order = order(log, laid);
            if (worth > best.worth || laid.size() < best.laid.size()
                    || laid.size() == best.laid.size() && comesFirst(order, best.order)) {
                best.worth = worth;
                best.order = order;
                best.laid = new ArrayList<>(laid);
            }
        }
        return best.seen < 20000;
    }

    /** A pattern row by row: the slab's thickness, then its boards column by column; 99 is none. */
    private static int[] order(Told log, List<Laid> laid) {
        int[] order = new int[log.side * (log.side + 1)];
        Arrays.fill(order, 99);
        for (Laid one : laid) {
            int at = one.across() * (log.side + 1);
            order[at] = log.sizes[one.size()][0];
            order[at + 1 + one.along()] = one.size();
        }
        return order;
    }

    private static boolean comesFirst(int[] a, int[] b) {
        return Arrays.compare(a, b) < 0;
    }

    private static void keepsTheRules(Told log, int k) {
        SawGrids saw = log.saw;
        String what = "large log " + k;
        int boards = saw.run();
        Check.same(what + " wood", saw.wood(), woodCells(log));
        Check.same(what + " sum lying", saw.worth(0), greatest(log, 0));
        Check.same(what + " sum turned", saw.worth(1), greatest(log, 1));
        Check.same(what + " best of both", saw.all(0), Math.max(saw.worth(0), saw.worth(1)));
        Check.same(what + " boards", saw.all(3), boards);
        // An object answers 512 calls, which are too few to ask after all boards of every log.
        if (boards <= 22) {
            boardsKeepTheRules(what, log, boards);
        }
    }

    private static void boardsKeepTheRules(String what, Told log, int boards) {
        SawGrids saw = log.saw;
        int sum = 0;
        int cells = 0;
        for (int k = 0; k < boards; k++) {
            sum += isLawful(what, log, k);
            cells += saw.board(k, 3) * saw.board(k, 4);
            if (k > 0) {
                Check.yes(what + " apart", saw.apart(k - 1, k));
            }
        }
        int wood = woodCells(log);
        Check.same(what + " sum", saw.all(0), sum);
        Check.same(what + " yield", (long) saw.yields(0) * wood, wood == 0 ? 0 : (long) saw.yields(1) * cells);
    }

    private static int woodCells(Told log) {
        int wood = 0;
        for (boolean[] row : log.wood) {
            for (boolean cell : row) {
                wood += cell ? 1 : 0;
            }
        }
        return wood;
    }

    private static int isLawful(String what, Told log, int k) {
        SawGrids saw = log.saw;
        int turn = saw.all(1);
        int size = saw.board(k, 0);
        int across = saw.board(k, turn == 0 ? 2 : 1);
        int along = saw.board(k, turn == 0 ? 1 : 2);
        Check.yes(what + " fits", fits(log, size, across, along, turn));
        Check.yes(what + " may", saw.may(size, saw.board(k, 1), saw.board(k, 2), turn));
        Check.same(what + " worth", saw.board(k, 5), value(log, size, across, along, turn));
        Check.same(what + " bare", saw.board(k, 6), bare(log, size, across, along, turn));
        return saw.board(k, 5);
    }

    /**
     * The greatest sum of a turn, from the first row down where the class goes up from the last one.
     * before[i + kerf] is what the rows before i give, and so before[i] what they give with a kerf left free.
     */
    private static int greatest(Told log, int turn) {
        int[] before = new int[log.side + log.kerf + 1];
        for (int end = 1; end <= log.side; end++) {
            int best = before[end + log.kerf - 1];
            for (int row = 0; row < end; row++) {
                best = Math.max(best, greatestSlab(log, turn, row, end - row) + before[row]);
            }
            before[end + log.kerf] = best;
        }
        return before[log.side + log.kerf];
    }

    private static int greatestSlab(Told log, int turn, int row, int thick) {
        int[] before = new int[log.side + log.kerf + 1];
        for (int end = 1; end <= log.side; end++) {
            int best = before[end + log.kerf - 1];
            for (int size = 0; size < log.sizes.length; size++) {
                int column = end - log.sizes[size][1];
                if (log.sizes[size][0] == thick && fits(log, size, row, column, turn)) {
                    best = Math.max(best, value(log, size, row, column, turn) + before[column]);
                }
            }
            before[end + log.kerf] = best;
        }
        return before[log.side + log.kerf];
    }
}
