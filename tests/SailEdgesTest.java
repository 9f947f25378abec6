/** Promises 19 to 21, and "Sails": each sentence that names an edge. */
public final class SailEdgesTest {
    public static void main(String[] args) {
        trimRanges();
        drafts();
        trimStands();
        winds();
        powers();
        leftToRight();
        halyardRanges();
        leastHalyard();
        notAboveTheLimit();
        withoutAHalyard();
        withTheSheetAndReefsOfNow();
        nothingIsTrimmed();
        Due.end();
    }

    private static float draft(int halyard, int sheet) {
        float less = 0.001f * (float) halyard;
        float more = 0.0005f * (float) sheet;
        float slack = 0.15f - less;
        return slack + more;
    }

    private static float power(int halyard, int sheet, int reefs, int wind) {
        float area = 40.0f / (1.0f + (float) reefs);
        float drawn = draft(halyard, sheet) * area;
        float once = drawn * (float) wind;
        return once * (float) wind;
    }

    private static int least(int sheet, int reefs, int wind, int limit) {
        int least = BroadseamLoft.NONE;
        for (int halyard = 100; halyard >= 0; halyard--) {
            least = power(halyard, sheet, reefs, wind) > (float) limit ? least : halyard;
        }
        return least;
    }

    private static void trimRanges() {
        String power = "power 100";
        float before = power(10, 20, 2, 100);
        new Run("halyard: 0 to 100").tell("trim 10 20 2").outside(Run.ARGUMENT, "trim # 5 1", 0, 100)
                .due(before, power).due(draft(0, 5), "trim 0 5 1").due(draft(100, 5), "trim 100 5 1");
        new Run("sheet: 0 to 100").tell("trim 10 20 2").outside(Run.ARGUMENT, "trim 5 # 1", 0, 100)
                .due(before, power).due(draft(5, 0), "trim 5 0 1").due(draft(5, 100), "trim 5 100 1");
        new Run("reefs: 0 to 3").tell("trim 10 20 2").outside(Run.ARGUMENT, "trim 5 5 #", 0, 3)
                .due(before, power).due(draft(5, 5), "trim 5 5 0").due(power(5, 5, 0, 100), power)
                .due(draft(5, 5), "trim 5 5 3").due(power(5, 5, 3, 100), power);
        new Run("all three out of range").tell("trim 10 20 2").refused(Run.ARGUMENT, "trim 101 101 4", "trim -1 -1 -1",
                "trim 100 100 4", "trim 101 100 3", "trim 100 101 3").due(before, power);
    }

    private static void drafts() {
        for (int halyard = 0; halyard <= 100; halyard++) {
            Run run = new Run("0.15f less 0.001f times the halyard, more 0.0005f times the sheet");
            for (int sheet = 0; sheet <= 100; sheet++) {
                run.due(draft(halyard, sheet), "trim " + halyard + " " + sheet + " " + sheet % 4);
            }
        }
        new Run("the drafts at the ends").due(0.15f, "trim 0 0 0").due(0.050000004f, "trim 100 0 0")
                .due(0.2f, "trim 0 100 0").due(0.10000001f, "trim 100 100 3");
    }

    private static void trimStands() {
        new Run("the latest trim stands").tell("trim 100 0 3", "trim 0 100 0").due(power(0, 100, 0, 9), "power 9")
                .tell("trim 0 0 0").due(600.0f, "power 10");
    }

    private static void winds() {
        new Run("wind: 0 to 100").outside(Run.ARGUMENT, "power #", 0, 100).due(0.0f, "power 0")
                .due(60000.0f, "power 100").due(power(0, 0, 0, 1), "power 1").due(power(0, 0, 0, 99), "power 99");
    }

    private static void powers() {
        for (int reefs = 0; reefs <= 3; reefs++) {
            for (int halyard = 0; halyard <= 100; halyard += 20) {
                for (int sheet = 0; sheet <= 100; sheet += 25) {
                    Run run = new Run("power").tell("trim " + halyard + " " + sheet + " " + reefs);
                    for (int wind = 0; wind <= 100; wind++) {
                        run.due(power(halyard, sheet, reefs, wind), "power " + wind);
                    }
                }
            }
        }
    }

    /** Trims and winds where doubles, or floats reckoned in another order, answer something else. */
    private static void leftToRight() {
        int found = 0;
        for (int halyard = 0; halyard <= 100; halyard++) {
            int sheet = halyard * 37 % 101;
            int reefs = halyard % 4;
            int wind = 1 + halyard * 53 % 100;
            float inDoubles = (float) ((0.15 - 0.001 * halyard + 0.0005 * sheet) * (40.0 / (1.0 + reefs))
                    * wind * wind);
            float windFirst = draft(halyard, sheet) * (40.0f / (1.0f + reefs)) * (wind * wind);
            float due = power(halyard, sheet, reefs, wind);
            if (due != inDoubles && due != windFirst) {
                found++;
                new Run("in floats, from left to right").tell("trim " + halyard + " " + sheet + " " + reefs)
                        .due(due, "power " + wind);
            }
        }
        boolean isShown = found > 5;
        Due.is(true, "there are such trims", () -> isShown);
    }

    private static void halyardRanges() {
        new Run("halyard: wind 0 to 100").tell("trim 10 20 2").outside(Run.ARGUMENT, "halyard # 500", 0, 100)
                .due(0, "halyard 0 500").due(-1, "halyard 100 500");
        new Run("halyard: limit 0 to 100000").tell("trim 10 20 2").outside(Run.ARGUMENT, "halyard 10 #", 0, 100000)
                .due(0, "halyard 100 100000").due(-1, "halyard 10 0").due(0, "halyard 0 0");
        new Run("halyard: both out of range").refused(Run.ARGUMENT, "halyard 101 100001", "halyard -1 -1",
                "halyard 101 0", "halyard 0 100001");
    }

    private static void leastHalyard() {
        for (int wind = 1; wind <= 100; wind += 9) {
            for (int reefs = 0; reefs <= 3; reefs++) {
                Run run = new Run("the least halyard").tell("trim 50 40 " + reefs);
                for (int halyard = 0; halyard <= 100; halyard += 5) {
                    int whole = (int) power(halyard, 40, reefs, wind);
                    for (int limit = whole; limit <= whole + 1; limit++) {
                        run.due(least(40, reefs, wind, limit), "halyard " + wind + " " + limit);
                    }
                }
            }
        }
    }

    /** Each power that is a whole number: as limit it is not above itself, but above the limit one below. */
    private static void notAboveTheLimit() {
        int found = 0;
        for (int wind = 1; wind <= 100; wind++) {
            for (int halyard = 1; halyard <= 99; halyard++) {
                float power = power(halyard, 0, 0, wind);
                int limit = (int) power;
                float inDoubles = (float) ((0.15 - 0.001 * halyard) * 40.0 * wind * wind);
                if (power == (float) limit && limit > 0 && (found % 40 == 0 || power != inDoubles)) {
                    new Run("not above a limit").due(halyard, "halyard " + wind + " " + limit)
                            .due(least(0, 0, wind, limit - 1), "halyard " + wind + " " + (limit - 1));
                }
                found += power == (float) limit ? 1 : 0;
            }
        }
        boolean isShown = found > 5;
        Due.is(true, "there are such halyards", () -> isShown);
        new Run("not above a limit, at the ends").due(0, "halyard 10 600").due(1, "halyard 10 599")
                .due(0, "halyard 100 60000").due(1, "halyard 100 59999");
    }

    private static void withoutAHalyard() {
        float last = power(100, 0, 0, 100);
        int above = (int) last + 1;
        new Run("the halyard 100").due(100, "halyard 100 " + above).due(-1, "halyard 100 " + (int) last)
                .due(-1, "halyard 100 " + ((int) last - 1))
                .due(-1, "halyard 100 0").due(-1, "halyard 1 0").due(0, "halyard 0 0").due(-1, "halyard 1 1")
                .due(100, "halyard 10 201");
        new Run("NONE without, in each trim").tell("trim 100 0 3").due(-1, "halyard 1 0").tell("trim 0 100 0")
                .due(-1, "halyard 100 30000").due(-1, "halyard 100 40000")
                .due(100, "halyard 100 40001").due(0, "halyard 100 100000");
    }

    private static void withTheSheetAndReefsOfNow() {
        Run run = new Run("with the sheet and reefs of now");
        for (int sheet = 0; sheet <= 100; sheet += 10) {
            for (int reefs = 0; reefs <= 3; reefs++) {
                run.tell("trim " + (100 - sheet) + " " + sheet + " " + reefs).due(least(sheet, reefs, 40, 5000),
                        "halyard 40 5000").due(least(sheet, reefs, 70, 9000), "halyard 70 9000");
            }
        }
    }

    private static void nothingIsTrimmed() {
        new Run("nothing is trimmed").tell("trim 90 80 2").due(least(80, 2, 50, 3000), "halyard 50 3000")
                .due(power(90, 80, 2, 50), "power 50").due(-1, "halyard 100 0").due(power(90, 80, 2, 50), "power 50")
                .due(0, "halyard 0 0").due(power(90, 80, 2, 50), "power 50");
    }
}
