/** Runs of 512 calls, each answer held against PlainLoft's; the runs are the same every time. */
public final class RandomRunsTest {
    private static final int RUNS = 400;
    private static final int CALLS = 512;

    /** How often each area is called in a run of its own; the last row mixes all. */
    private static final String[][] AREAS = {
        {"lot", "sun", "panel", "panel", "strength", "roll", "roll"},
        {"lot", "sun", "panel", "panel", "seam", "seam", "seam", "rip", "bears", "bearsAnew", "bears", "bearsAnew"},
        {"knot", "knot", "load", "rest", "rest", "height", "height", "height"},
        {"peg", "gust", "pulled", "pulled", "pegs"},
        {"trim", "power", "halyard"},
        {"lot", "pass", "canopy", "part", "part", "opens", "seal", "seal", "seal", "use", "use", "wet", "find", "find",
            "ofCanopy", "ofCanopy", "lifeAnew"},
        {"lot", "sun", "panel", "strength", "roll", "seam", "rip", "bears", "bearsAnew", "knot", "load", "rest",
            "height", "peg", "gust", "pulled", "pegs", "trim", "power", "halyard", "pass", "canopy", "part", "opens",
            "seal", "use", "wet", "find", "ofCanopy", "lifeAnew"},
    };

    private static long seed = 20261119;

    public static void main(String[] args) {
        for (int run = 0; run < RUNS; run++) {
            run(run, AREAS[run % AREAS.length]);
        }
        Due.end();
    }

    private static void run(int run, String[] area) {
        BroadseamLoft loft = new BroadseamLoft();
        PlainLoft plain = new PlainLoft();
        // Some runs are told greater numbers, some smaller, as the one hides what the other shows.
        int scale = below(3);
        for (int call = 0; call < CALLS; call++) {
            String method = area[below(area.length)];
            long[] told = arguments(method, scale);
            String want = Due.told(() -> plain.call(method, told));
            Due.is(want, "run " + run + ", call " + call + ", " + line(method, told),
                    () -> Face.answer(loft, method, told));
        }
    }

    private static String line(String method, long[] told) {
        StringBuilder line = new StringBuilder(method);
        for (long argument : told) {
            line.append(' ').append(argument);
        }
        return line.toString();
    }

    private static int below(int bound) {
        seed = seed * 6364136223846793005L + 1442695040888963407L;
        return (int) Long.remainderUnsigned(seed >>> 33, bound);
    }

    /** A number of a range, now and then an end of it or one beyond. */
    private static long among(long least, long most) {
        switch (below(24)) {
            case 0: return least;
            case 1: return most;
            case 2: return below(3) == 0 ? least - 1 : least;
            case 3: return below(3) == 0 ? most + 1 : most;
            default:
                long wide = (long) below(1 << 30) << 30 | below(1 << 30);
                return least + Long.remainderUnsigned(wide, most - least + 1);
        }
    }

    private static long scaled(long least, long most, int scale) {
        return among(least, scale == 0 ? most : Math.max(least + 1, scale == 1 ? 2000 : 20));
    }

    private static long[] of(long... told) {
        return told;
    }

    private static long[] arguments(String method, int scale) {
        long strong = 2000000000;
        switch (method) {
            case "lot": return of(scaled(1, strong, scale), scaled(1, strong, scale), scaled(1, strong, scale));
            case "sun": return of(among(0, 5), among(1, below(4) == 0 ? 10000 : 60));
            case "panel": return of(among(0, 5), among(1, below(2) == 0 ? 150 : 60), among(1, 75), among(0, 2));
            case "strength": case "rip": return of(among(0, method.equals("rip") ? 29 : 11));
            case "roll": return of(among(0, 5));
            case "seam": return of(among(0, 11), among(0, 11), among(0, 2));
            case "bears": case "bearsAnew": return of(among(0, 11), among(0, 11));
            case "knot": return of(among(0, 35), among(-10000, 10000), below(2));
            case "load": return of(among(0, scale == 0 ? 100 : 4));
            case "rest": return of(among(1, below(2) == 0 ? 50 : 3));
            case "height": return of(among(0, 35));
            case "peg": return of(scaled(0, 4000000000000L, scale), among(1, 100));
            case "gust": return of(scaled(0, below(2) == 0 ? 40000000000000L : 2000000000000L, scale));
            case "pulled": return of(among(0, 7));
            case "pegs": return of();
            case "trim": return of(among(0, 100), among(0, 100), among(0, 3));
            case "power": return of(among(0, 100));
            case "halyard": return of(among(0, 100), among(0, below(2) == 0 ? 100000 : 3000));
            case "pass": return of(among(1, below(3) == 0 ? 400 : 60));
            case "canopy": return of(among(0, 2));
            case "part": return of(among(0, 5), below(3) == 0 ? among(0, 255) : 1 << below(8) & 254);
            case "opens": case "use": return of(among(0, 5));
            case "seal": return of(among(0, 5), among(0, 4));
            case "wet": return of(among(0, 5), below(5) == 0 ? 1 : 0);
            case "find": return of(among(0, 2), below(2));
            default: return of(among(0, 5), among(method.equals("ofCanopy") ? 0 : 3, 5));
        }
    }
}
