import java.util.ArrayList;
import java.util.List;

/** Rows of calls that bring to light all that a loft holds, each row for a loft of its own. */
final class Probes {
    static final List<List<Line>> ALL = List.of(lots(), loads(), seams(), net(), pegs(), sail(),
            canopies(), sealing(), parts(), finds(), days(), lastDays());

    private Probes() {
    }

    private static void each(List<Line> row, String pattern, int count) {
        for (int number = 0; number < count; number++) {
            row.add(new Line(Run.put(pattern, number)));
        }
    }

    private static void times(List<Line> row, int times, String text) {
        for (int time = 0; time < times; time++) {
            row.add(new Line(text));
        }
    }

    private static List<Line> lots() {
        List<Line> row = new ArrayList<>();
        each(row, "roll #", 7);
        each(row, "strength #", 13);
        each(row, "sun # 1", 6);
        times(row, 7, "lot 700 70 7");
        times(row, 13, "panel 0 10 149 0");
        each(row, "roll #", 6);
        each(row, "strength #", 12);
        return row;
    }

    private static List<Line> loads() {
        List<Line> row = new ArrayList<>();
        for (int panel = 0; panel < 12; panel++) {
            for (int other = panel; other < 12; other++) {
                row.add(new Line("bears " + panel + " " + other));
                row.add(new Line("bearsAnew " + panel + " " + other));
            }
        }
        return row;
    }

    private static List<Line> seams() {
        List<Line> row = new ArrayList<>();
        each(row, "rip #", 31);
        times(row, 31, "seam 0 1 1");
        return row;
    }

    private static List<Line> net() {
        List<Line> row = new ArrayList<>();
        each(row, "height #", 36);
        times(row, 1, "load 7");
        times(row, 1, "rest 1");
        each(row, "height #", 36);
        times(row, 1, "load 0");
        times(row, 1, "rest 50");
        each(row, "height #", 36);
        return row;
    }

    private static List<Line> pegs() {
        List<Line> row = new ArrayList<>();
        each(row, "pulled #", 9);
        times(row, 1, "pegs");
        times(row, 1, "gust 1000");
        each(row, "pulled #", 8);
        times(row, 1, "pegs");
        times(row, 9, "peg 1000000000000 7");
        times(row, 1, "gust 40000000000000");
        each(row, "pulled #", 8);
        return row;
    }

    private static List<Line> sail() {
        List<Line> row = new ArrayList<>();
        each(row, "power #", 8);
        times(row, 1, "halyard 50 7000");
        times(row, 1, "halyard 10 300");
        times(row, 1, "trim 50 50 0");
        times(row, 1, "power 100");
        return row;
    }

    private static List<Line> canopies() {
        List<Line> row = new ArrayList<>();
        each(row, "opens #", 7);
        for (int canopy = 0; canopy < 6; canopy++) {
            each(row, "ofCanopy " + canopy + " #", 6);
            each(row, "lifeAnew " + canopy + " #", 6);
        }
        return row;
    }

    private static List<Line> sealing() {
        List<Line> row = new ArrayList<>();
        each(row, "use #", 6);
        each(row, "seal # 1", 6);
        each(row, "ofCanopy # 2", 6);
        each(row, "lifeAnew # 3", 6);
        each(row, "lifeAnew # 4", 6);
        return row;
    }

    private static List<Line> parts() {
        List<Line> row = new ArrayList<>();
        times(row, 7, "canopy 0");
        each(row, "wet # false", 6);
        for (int part = 0; part < 9; part++) {
            each(row, "part # " + (1 << part >> 1), 6);
        }
        each(row, "opens #", 6);
        each(row, "lifeAnew # 5", 6);
        return row;
    }

    private static List<Line> finds() {
        List<Line> row = new ArrayList<>();
        each(row, "find # true", 6);
        each(row, "find # false", 6);
        each(row, "ofCanopy # 1", 6);
        each(row, "seal # 2", 6);
        return row;
    }

    private static List<Line> days() {
        List<Line> row = new ArrayList<>();
        times(row, 1, "pass 180");
        each(row, "use #", 6);
        times(row, 1, "pass 1");
        each(row, "use #", 6);
        return row;
    }

    private static List<Line> lastDays() {
        List<Line> row = new ArrayList<>();
        times(row, 250, "pass 400");
        times(row, 1, "pass 200");
        times(row, 1, "pass 100");
        return row;
    }
}
