/** Promises 7 to 10, and "Seams, loads": each sentence that names an edge. */
public final class SeamsEdgesTest {
    private static final String[] THREE_PANELS = {"lot 1000 1 1", "panel 0 10 1 0", "panel 0 20 1 0", "panel 0 30 1 0"};

    public static void main(String[] args) {
        seamPanels();
        bothOne();
        kinds();
        thirtySeams();
        rippedSeamsCount();
        seamOrder();
        seamStrengths();
        seamRoundedDown();
        seamWrapsNowhere();
        ripSeam();
        ripTillNow();
        bearsPanels();
        theSamePanel();
        withoutAWay();
        rippedIsNone();
        bestWay();
        weakestOfTheWay();
        sunOnTheWay();
        noStrength();
        allTwelve();
        Due.end();
    }

    private static Run bear(Run run, long want, int panel, int other) {
        return run.due(want, "bears " + panel + " " + other).due(want, "bearsAnew " + panel + " " + other)
                .due(want, "bears " + other + " " + panel).due(want, "bearsAnew " + other + " " + panel);
    }

    private static void seamPanels() {
        new Run("seam: no such panel").tell(THREE_PANELS).outside(Run.INDEX, "seam # 1 0", 0, 2)
                .outside(Run.INDEX, "seam 1 # 0", 0, 2).outside(Run.INDEX, "seam # -1 0", 0, 2)
                .due(0, "seam 0 2 0").due(1, "seam 2 0 0");
        Run last = new Run("seam: the last of 12 panels").tell("lot 1 1 1");
        for (int panel = 0; panel < 12; panel++) {
            last.tell("panel 0 10 1 0");
        }
        last.outside(Run.INDEX, "seam # 1 0", 0, 11).outside(Run.INDEX, "seam 1 # 0", 0, 11).due(0, "seam 11 0 1")
                .due(1, "seam 0 11 1");
    }

    private static void bothOne() {
        new Run("seam: both are one").tell(THREE_PANELS).refused(Run.ARGUMENT, "seam 0 0 0", "seam 1 1 1",
                "seam 2 2 2").due(0, "seam 0 1 0").refused(Run.ARGUMENT, "seam 0 0 0", "seam 1 1 1");
    }

    private static void kinds() {
        new Run("kind: FLAT to ZIGZAG").tell(THREE_PANELS).outside(Run.ARGUMENT, "seam 0 1 #", 0, 2)
                .due(0, "seam 0 1 0").due(1, "seam 0 1 1").due(2, "seam 0 1 2")
                .outside(Run.ARGUMENT, "seam 0 1 #", 0, 2);
    }

    private static void thirtySeams() {
        Run run = new Run("seams are numbered from 0, up to 30").tell(THREE_PANELS);
        for (int seam = 0; seam < 30; seam++) {
            run.refused(Run.INDEX, "rip " + seam);
            run.due(seam, "seam " + seam % 3 + " " + (seam + 1) % 3 + " " + seam % 2);
        }
        run.refused(Run.STATE, "seam 0 1 0", "seam 2 1 2").refused(Run.INDEX, "rip 30").due(12000, "rip 28");
        run.due(6000, "rip 0").due(8000, "rip 29");
    }

    private static void rippedSeamsCount() {
        Run run = new Run("if there were 30, ripped ones too").tell(THREE_PANELS);
        for (int seam = 0; seam < 30; seam++) {
            run.due(seam, "seam 1 2 1").due(16000, "rip " + seam);
        }
        run.refused(Run.STATE, "seam 1 2 1", "seam 0 1 2");
        for (int seam = 0; seam <= 30; seam++) {
            run.refused(Run.INDEX, "rip " + seam);
        }
        bear(run, 0, 1, 2);
        new Run("a ripped number is not used again").tell(THREE_PANELS).due(0, "seam 0 1 0").due(6000, "rip 0")
                .due(1, "seam 0 1 0").refused(Run.INDEX, "rip 0").due(6000, "rip 1").due(2, "seam 0 1 0");
    }

    private static void seamOrder() {
        new Run("seam: no such panel comes first").tell(THREE_PANELS).refused(Run.INDEX, "seam 3 3 0", "seam -1 -1 0",
                "seam 3 3 3", "seam 3 0 3", "seam 0 3 -1", "seam 0 -1 3", "seam -1 0 -1");
        Run full = new Run("seam: the order with 30 of them").tell(THREE_PANELS);
        for (int seam = 0; seam < 30; seam++) {
            full.tell("seam 0 1 0");
        }
        full.refused(Run.INDEX, "seam 0 3 0", "seam 3 0 0", "seam -1 0 0", "seam 3 3 3", "seam 0 3 3")
                .refused(Run.ARGUMENT, "seam 0 0 0", "seam 0 1 3", "seam 0 1 -1", "seam 2 2 3")
                .refused(Run.STATE, "seam 0 1 0");
    }

    private static void seamStrengths() {
        new Run("the weaker of its panels, times 60, 80 or 40, divided by 100").tell(THREE_PANELS)
                .tell("seam 0 1 0", "seam 1 0 0", "seam 0 2 1", "seam 2 0 1", "seam 1 2 2", "seam 2 1 2")
                .due(6000, "rip 0").due(6000, "rip 1").due(8000, "rip 2").due(8000, "rip 3").due(8000, "rip 4")
                .due(8000, "rip 5");
    }

    private static void seamRoundedDown() {
        int[][] strengthAndSeams = {{1, 0, 0, 0}, {2, 1, 1, 0}, {3, 1, 2, 1}, {4, 2, 3, 1}, {5, 3, 4, 2}, {6, 3, 4, 2},
            {7, 4, 5, 2}, {8, 4, 6, 3}, {9, 5, 7, 3}, {99, 59, 79, 39}, {149, 89, 119, 59}};
        for (int[] row : strengthAndSeams) {
            Run run = new Run("a seam's strength is rounded down").tell("lot 1 1 1", "panel 0 " + row[0] + " 1 0",
                    "panel 0 150 1 0", "seam 0 1 0", "seam 1 0 1", "seam 0 1 2");
            bear(run, row[2], 0, 1);
            run.due(row[1], "rip 0").due(row[2], "rip 1").due(row[3], "rip 2");
        }
    }

    private static void seamWrapsNowhere() {
        Run run = new Run("300000000000 times 80 wraps around nowhere").tell("lot 2000000000 2000000000 1",
                "panel 0 150 1 0", "panel 0 150 1 1", "seam 0 1 0", "seam 0 1 1", "seam 0 1 2");
        bear(run, 240000000000L, 0, 1);
        bear(run, 300000000000L, 1, 1);
        run.due(240000000000L, "rip 1");
        bear(run, 180000000000L, 0, 1);
        run.due(180000000000L, "rip 0");
        bear(run, 120000000000L, 0, 1);
        run.due(120000000000L, "rip 2");
        bear(run, 0, 0, 1);
    }

    private static void ripSeam() {
        new Run("rip: no such seam").tell(THREE_PANELS).tell("seam 0 1 0", "seam 0 1 1")
                .outside(Run.INDEX, "rip #", 0, 1)
                .refused(Run.INDEX, "rip 29", "rip 30").due(8000, "rip 1").due(6000, "rip 0");
        new Run("rip: it was ripped").tell(THREE_PANELS).tell("seam 0 1 0", "seam 0 1 1").due(6000, "rip 0")
                .refused(Run.INDEX, "rip 0").due(8000, "rip 1").refused(Run.INDEX, "rip 0", "rip 1");
    }

    private static void ripTillNow() {
        new Run("rip: its strength till now").tell(THREE_PANELS)
                .tell("seam 0 1 0", "seam 0 1 0", "seam 0 1 0", "sun 0 1")
                .due(9990L * 60 / 100, "rip 0").tell("sun 0 499").due(3000, "rip 1").tell("sun 0 10000")
                .due(600, "rip 2");
        new Run("rip: the weaker panel may be the other one by now").tell("lot 1000 1 1", "lot 1000 1 1",
                "panel 0 10 1 0", "panel 1 11 1 0", "seam 0 1 0", "seam 0 1 0").due(6000, "rip 0").tell("sun 1 500")
                .due(3300, "rip 1");
    }

    private static void bearsPanels() {
        for (String name : new String[] {"bears", "bearsAnew"}) {
            new Run(name + ": no such panel, of either").tell(THREE_PANELS).tell("seam 0 1 0")
                    .outside(Run.INDEX, name + " # 1", 0, 2).outside(Run.INDEX, name + " 1 #", 0, 2)
                    .outside(Run.INDEX, name + " # #", 0, 2).due(6000, name + " 0 1").due(0, name + " 2 0")
                    .due(30000, name + " 2 2");
        }
    }

    private static void theSamePanel() {
        Run run = new Run("the same: its strength").tell(THREE_PANELS);
        bear(run, 10000, 0, 0);
        bear(run, 30000, 2, 2);
        run.tell("seam 0 1 1", "seam 1 2 1", "seam 2 0 1");
        bear(run, 10000, 0, 0);
        bear(run, 20000, 1, 1);
        bear(run, 30000, 2, 2);
        run.tell("sun 0 900", "rip 0");
        bear(run, 1000, 0, 0);
        bear(run, 2000, 1, 1);
    }

    private static void withoutAWay() {
        Run run = new Run("0 without a way").tell(THREE_PANELS).tell("panel 0 40 1 0");
        bear(run, 0, 0, 1);
        run.tell("seam 0 1 0", "seam 2 3 0");
        bear(run, 6000, 0, 1);
        bear(run, 18000, 2, 3);
        bear(run, 0, 0, 2);
        bear(run, 0, 0, 3);
        bear(run, 0, 1, 2);
        bear(run, 0, 1, 3);
        run.tell("seam 3 1 0");
        bear(run, 6000, 0, 2);
        bear(run, 12000, 1, 2);
        run.tell("panel 0 50 1 0");
        bear(run, 0, 4, 0);
        bear(run, 50000, 4, 4);
    }

    private static void rippedIsNone() {
        Run run = new Run("a ripped seam is none").tell(THREE_PANELS).tell("seam 0 1 0", "seam 1 2 1", "seam 0 1 2");
        bear(run, 6000, 0, 2);
        run.due(6000, "rip 0");
        bear(run, 4000, 0, 2);
        bear(run, 16000, 1, 2);
        run.due(4000, "rip 2");
        bear(run, 0, 0, 2);
        bear(run, 0, 0, 1);
        bear(run, 16000, 1, 2);
        run.due(3, "seam 2 0 0");
        bear(run, 6000, 0, 1);
    }

    private static void bestWay() {
        Run run = new Run("as much as the way bears that bears most").tell("lot 1000 1 1", "panel 0 100 1 0",
                "panel 0 100 1 0", "panel 0 90 1 0", "panel 0 70 1 0", "seam 0 1 2");
        bear(run, 40000, 0, 1);
        run.tell("seam 0 1 2");
        bear(run, 40000, 0, 1);
        run.tell("seam 0 3 0", "seam 3 1 1");
        bear(run, 42000, 0, 1);
        run.tell("seam 0 2 0", "seam 2 1 1");
        bear(run, 54000, 0, 1);
        run.tell("seam 0 1 0");
        bear(run, 60000, 0, 1);
        bear(run, 56000, 3, 2);
        run.tell("seam 1 0 1");
        bear(run, 80000, 0, 1);
        bear(run, 72000, 0, 2);
    }

    private static void weakestOfTheWay() {
        for (int weak = 0; weak < 5; weak++) {
            Run run = new Run("the weakest of its panels, with both ends, wherever it is").tell("lot 1000 1 1");
            for (int panel = 0; panel < 5; panel++) {
                run.tell("panel 0 " + (panel == weak ? 10 : 100) + " 1 0");
            }
            run.tell("seam 0 1 1", "seam 1 2 1", "seam 2 3 1", "seam 3 4 1");
            bear(run, 8000, 0, 4);
        }
        for (int weak = 0; weak < 4; weak++) {
            Run run = new Run("the weakest of its seams, wherever it is").tell("lot 1000 1 1");
            for (int panel = 0; panel < 5; panel++) {
                run.tell("panel 0 100 1 0");
            }
            for (int seam = 0; seam < 4; seam++) {
                run.tell("seam " + seam + " " + (seam + 1) + " " + (seam == weak ? 2 : 1));
            }
            bear(run, 40000, 0, 4);
            run.tell("seam " + weak + " " + (weak + 1) + " 0");
            bear(run, 60000, 0, 4);
        }
    }

    private static void sunOnTheWay() {
        Run run = new Run("another way is the best in the sun").tell("lot 1000 1 1", "lot 1000 1 1", "lot 1000 1 1",
                "panel 0 100 1 0", "panel 0 100 1 0", "panel 1 80 1 0", "panel 2 70 1 0", "seam 0 2 1", "seam 2 1 1",
                "seam 0 3 1", "seam 3 1 1");
        bear(run, 64000, 0, 1);
        run.tell("sun 1 126");
        bear(run, 56000, 0, 1);
        run.tell("sun 2 10000");
        bear(run, 69920L * 80 / 100, 0, 1);
        run.tell("sun 1 10000");
        bear(run, 6400, 0, 1);
    }

    private static void noStrength() {
        Run run = new Run("panels and seams of no strength").tell("lot 1 9 1000", "sun 0 900", "panel 0 150 1 0",
                "panel 0 150 1 1", "panel 0 1 1 2", "panel 0 1 1 2");
        bear(run, 0, 0, 0);
        run.due(0, "seam 0 1 1").due(1, "seam 1 2 1").due(2, "seam 2 3 1").due(3, "seam 0 3 1");
        bear(run, 0, 0, 1);
        bear(run, 0, 0, 2);
        bear(run, 80, 2, 3);
        bear(run, 100, 3, 3);
        run.due(0, "rip 0").refused(Run.INDEX, "rip 0").due(0, "rip 1").due(80, "rip 2");
        bear(run, 0, 2, 3);
    }

    private static void allTwelve() {
        for (int way = 0; way <= 1; way++) {
            Run run = new Run("a way through all 12 panels").tell("lot 1000 1 1");
            for (int panel = 0; panel < 12; panel++) {
                run.tell("panel 0 " + (100 - panel) + " 1 0");
            }
            for (int seam = 0; seam < 11; seam++) {
                int panel = way == 0 ? seam : 10 - seam;
                run.tell("seam " + panel + " " + (panel + 1) + " 1");
            }
            for (int end = 1; end < 12; end++) {
                bear(run, (100 - end) * 800L, 0, end);
            }
            run.tell("seam 0 11 1", "rip 5");
            bear(run, 71200, 0, 11);
            bear(run, 71200, 5, 6);
        }
        Run zigzag = new Run("a way to and fro through all 12 panels").tell("lot 1000 1 1");
        int[] order = {0, 6, 1, 7, 2, 8, 3, 9, 4, 10, 5, 11};
        for (int panel = 0; panel < 12; panel++) {
            zigzag.tell("panel 0 100 1 0");
        }
        for (int step = 10; step >= 0; step--) {
            zigzag.tell("seam " + order[step + 1] + " " + order[step] + " 0");
        }
        bear(zigzag, 60000, 0, 11);
        zigzag.tell("seam 0 11 2");
        bear(zigzag, 60000, 0, 11);
        zigzag.tell("rip 5");
        bear(zigzag, 40000, 0, 11);
    }
}
