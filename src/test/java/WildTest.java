/** Any calls with any numbers in any order: no call throws but what the document names for it, nor out of turn. */
public final class WildTest {
    private static final Class<?> INDEX = IndexOutOfBoundsException.class;
    private static final Class<?> ARGUMENT = IllegalArgumentException.class;
    private static final Class<?> STATE = IllegalStateException.class;

    /** Of each call, in the order of callOne. */
    private static final Class<?>[][] NAMED = {
        {INDEX}, {INDEX, ARGUMENT}, {INDEX, ARGUMENT}, {ARGUMENT, STATE}, {}, {STATE, INDEX}, {STATE, INDEX},
        {INDEX}, {STATE, INDEX}, {INDEX}, {STATE, INDEX}, {}
    };
    private static final int TELLS = 4;
    private static final int RUN = 4;
    private static final int CALLS = 512;

    private static long seed = 512L;

    public static void main(String[] args) {
        Check.each(WildTest::onlyWhatIsNamed);
        Check.end("WildTest");
    }

    private static void onlyWhatIsNamed() {
        Check.sentence("IllegalStateException: there is no room, or nothing was SAWN since something was told.");
        for (int log = 0; log < 300; log++) {
            SawGrids saw = new SawGrids(wild(), wild());
            boolean sawn = false;
            for (int k = 0; k < CALLS; k++) {
                int call = next(NAMED.length);
                Class<?> thrown = thrownBy(saw, call);
                Check.yes("call " + call + " throws " + thrown, thrown == null || isNamed(call, thrown));
                if (asksOfSawn(call)) {
                    Check.same("sawn, call " + call, thrown == STATE ? 0 : 1, sawn ? 1 : 0);
                } else if (thrown == null) {
                    sawn = call == RUN || call >= TELLS && sawn;
                }
            }
        }
    }

    private static boolean asksOfSawn(int call) {
        return NAMED[call].length > 0 && NAMED[call][0] == STATE;
    }

    private static boolean isNamed(int call, Class<?> thrown) {
        for (Class<?> named : NAMED[call]) {
            if (named == thrown) {
                return true;
            }
        }
        return false;
    }

    private static Class<?> thrownBy(SawGrids saw, int call) {
        try {
            callOne(saw, call);
            return null;
        } catch (RuntimeException e) {
            return e.getClass();
        }
    }

    private static void callOne(SawGrids saw, int call) {
        switch (call) {
            case 0 -> saw.cell(wild(), wild(), wild(), next(4) > 0);
            case 1 -> saw.span(wild(), wild(), wild(), wild());
            case 2 -> saw.knot(wild(), wild(), wild());
            case 3 -> saw.size(wild(), wild(), wild(), wild());
            case 4 -> saw.run();
            case 5 -> saw.board(wild(), wild());
            case 6 -> saw.all(wild());
            case 7 -> saw.worth(wild());
            case 8 -> saw.yields(wild());
            case 9 -> saw.may(wild(), wild(), wild(), wild());
            case 10 -> saw.apart(wild(), wild());
            default -> saw.wood();
        }
    }

    /** Mostly a number that some call takes, now and then any number at all. */
    private static int wild() {
        switch (next(8)) {
            case 0:
                return (int) (seed >>> 16);
            case 1:
                return next(100) * 1009 - 20;
            case 2:
                return Integer.MIN_VALUE + next(3);
            case 3:
                return Integer.MAX_VALUE - next(21);
            case 4:
                return next(25) - 2;
            default:
                return next(4);
        }
    }

    private static int next(int below) {
        seed = seed * 6364136223846793005L + 1442695040888963407L;
        return (int) ((seed >>> 33) % below);
    }
}
