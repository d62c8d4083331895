/** The turns of simulate, promise 30, and seeds from which wanted ones come. */
final class Turns {
    private static final long FACTOR = 6364136223846793005L;
    private static final long ADDED = 1442695040888963407L;
    private static final int LOW_BITS = 33;

    interface Wanted {
        boolean is(int kind, int q);
    }

    private Turns() {
    }

    /** Does the turns by the calls of the face. */
    static int byCalls(ChairStamps x, long seed, int m) {
        int given = x.about(4);
        int voided = x.about(5);
        for (int i = 0; i < m; i++) {
            seed = seed * FACTOR + ADDED;
            int r = (int) (seed >>> LOW_BITS);
            byCall(x, r % 16, r / 16);
        }
        return 10000 * (x.about(4) - given) + 100 * x.about(2) + x.about(5) - voided;
    }

    static void byCall(ChairStamps x, int kind, int q) {
        try {
            call(x, kind, q);
        } catch (IndexOutOfBoundsException | IllegalArgumentException | IllegalStateException e) {
            // What would throw an exception is left out.
        }
    }

    private static void call(ChairStamps x, int kind, int q) {
        switch (kind) {
            case 0, 1 -> x.chair(q % 4, 400 + (q / 4) % 101);
            case 2 -> x.floor(q % 9, (q / 9) % 9, (q / 81) % 9, (q / 729) % 9);
            case 3 -> x.level(q % 4, (q / 4) % 4, (q / 16) % 12);
            case 4, 5 -> x.saw(q % 10, (q / 16) % 4, 1 + (q / 64) % 9);
            case 6 -> x.shim(q % 10, (q / 16) % 4, 1 + (q / 64) % 9);
            case 7 -> x.bring(q % 10, (q / 16) % 4, (q / 64) % 4);
            case 8, 9, 10 -> x.test(q % 10);
            case 11 -> x.bound(q % 4, 2 + (q / 4) % 2, (q / 8) % 30);
            default -> x.sit(q % 10, 1 + (q / 16) % 200);
        }
    }

    /** A seed so that the first turn has the r that is asked for. */
    static long first(int r) {
        return seedBefore((long) r << LOW_BITS);
    }

    /** A seed so that the first turn is of that kind with that q, and wanted ones follow. */
    static long seed(int kind, int q, Wanted... next) {
        long high = (long) (16 * q + kind) << LOW_BITS;
        for (long low = 0; low < 1L << LOW_BITS; low++) {
            if (follow(high + low, next)) {
                return seedBefore(high + low);
            }
        }
        throw new IllegalArgumentException("no such seed");
    }

    private static boolean follow(long x, Wanted... next) {
        for (Wanted wanted : next) {
            x = x * FACTOR + ADDED;
            int r = (int) (x >>> LOW_BITS);
            if (!wanted.is(r % 16, r / 16)) {
                return false;
            }
        }
        return true;
    }

    private static long seedBefore(long x) {
        long inverse = 1;
        for (int i = 0; i < 6; i++) {
            inverse *= 2 - FACTOR * inverse;
        }
        return (x - ADDED) * inverse;
    }

    /** The least q that is so for a chair, a leg or floor, and a number that is given by q / 64. */
    static int q(int c, int k, int n, int of) {
        for (int q = 0; q < 100000; q++) {
            if (q % 10 == c && q / 16 % 4 == k && q / 64 % of == n) {
                return q;
            }
        }
        throw new IllegalArgumentException("no such q");
    }
}
