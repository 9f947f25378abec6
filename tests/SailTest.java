/** Promises 19 to 21: the trim, the power, and the halyard for a limit. */
public final class SailTest {
    public static void main(String[] args) {
        trims();
        wrongTrims();
        powers();
        halyards();
        Due.end();
    }

    private static float draft(int halyard, int sheet) {
        float less = 0.001f * (float) halyard;
        float more = 0.0005f * (float) sheet;
        float slack = 0.15f - less;
        return slack + more;
    }

    private static float power(int halyard, int sheet, int reefs, int wind) {
        float area = 40.0f / (1.0f + (float) reefs);
        float drawn = draft(halyard, sheet) * area;
        float once = drawn * (float) wind;
        return once * (float) wind;
    }

    private static void trims() {
        BroadseamLoft loft = new BroadseamLoft();
        for (int halyard = 0; halyard <= 100; halyard += 7) {
            for (int sheet = 0; sheet <= 100; sheet += 9) {
                int up = halyard;
                int in = sheet;
                Due.is(draft(up, in), "trim " + up + " " + in, () -> loft.trim(up, in, 0));
            }
        }
        Due.is(0.15f, "nothing", () -> loft.trim(0, 0, 3));
        Due.is(draft(100, 100), "all", () -> loft.trim(100, 100, 3));
    }

    private static void wrongTrims() {
        BroadseamLoft loft = new BroadseamLoft();
        loft.trim(10, 20, 1);
        Due.argument("halyard -1", () -> loft.trim(-1, 0, 0));
        Due.argument("halyard 101", () -> loft.trim(101, 0, 0));
        Due.argument("sheet -1", () -> loft.trim(0, -1, 0));
        Due.argument("sheet 101", () -> loft.trim(0, 101, 0));
        Due.argument("reefs -1", () -> loft.trim(0, 0, -1));
        Due.argument("reefs 4", () -> loft.trim(0, 0, 4));
        Due.is(power(10, 20, 1, 10), "nothing is trimmed by these", () -> loft.power(10));
    }

    private static void powers() {
        BroadseamLoft loft = new BroadseamLoft();
        Due.is(power(0, 0, 0, 100), "at first", () -> loft.power(100));
        Due.is(600.0f, "in a wind of 10", () -> loft.power(10));
        for (int reefs = 0; reefs <= 3; reefs++) {
            loft.trim(33, 47, reefs);
            for (int wind = 0; wind <= 100; wind++) {
                int blowing = wind;
                Due.is(power(33, 47, reefs, wind), "power " + reefs + " " + wind, () -> loft.power(blowing));
            }
        }
        Due.is(0.0f, "no wind", () -> loft.power(0));
        Due.argument("wind -1", () -> loft.power(-1));
        Due.argument("wind 101", () -> loft.power(101));
    }

    private static int leastHalyard(int sheet, int reefs, int wind, int limit) {
        for (int halyard = 0; halyard <= 100; halyard++) {
            if (power(halyard, sheet, reefs, wind) <= (float) limit) {
                return halyard;
            }
        }
        return BroadseamLoft.NONE;
    }

    private static void halyards() {
        BroadseamLoft loft = new BroadseamLoft();
        Due.is(0, "just at the limit", () -> loft.halyard(10, 600));
        Due.is(1, "just above it", () -> loft.halyard(10, 599));
        Due.is(-1, "none is enough", () -> loft.halyard(100, 0));
        Due.is(0, "no wind, no limit", () -> loft.halyard(0, 0));
        Due.is(100, "the last one", () -> loft.halyard(10, 201));
        loft.trim(90, 80, 2);
        for (int wind = 0; wind <= 100; wind += 10) {
            for (int limit = 0; limit <= 100000; limit += limit < 3000 ? 150 : 24250) {
                int blowing = wind;
                int most = limit;
                Due.is(leastHalyard(80, 2, wind, limit), "halyard " + wind + " " + limit,
                        () -> loft.halyard(blowing, most));
            }
        }
        Due.is(0, "the greatest limit", () -> loft.halyard(100, 100000));
        Due.is(power(90, 80, 2, 50), "nothing is trimmed", () -> loft.power(50));
        Due.argument("wind -1", () -> loft.halyard(-1, 0));
        Due.argument("wind 101", () -> loft.halyard(101, 0));
        Due.argument("limit -1", () -> loft.halyard(0, -1));
        Due.argument("limit 100001", () -> loft.halyard(0, 100001));
    }
}
