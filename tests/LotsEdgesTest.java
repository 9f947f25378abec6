/** Promises 2 to 6, and "Lots, panels": each sentence that names an edge. */
public final class LotsEdgesTest {
    private static final String[] SIX_LOTS =
            {"lot 1 1 1", "lot 2 2 2", "lot 3 3 3", "lot 4 4 4", "lot 5 5 5", "lot 6 6 6"};
    private static final String[] TWELVE_PANELS = {"panel 0 1 1 0", "panel 0 2 2 1", "panel 0 3 3 2", "panel 0 4 4 0",
        "panel 0 5 5 1", "panel 0 6 6 2", "panel 0 7 7 0", "panel 0 8 8 1", "panel 0 9 9 2", "panel 0 10 10 0",
        "panel 0 11 11 1", "panel 0 12 12 2"};

    public static void main(String[] args) {
        strengthsTold();
        sixLots();
        lotOrder();
        sunLot();
        sunHours();
        mostHours();
        panelLot();
        panelSizes();
        biasTogether();
        panelAlong();
        twelvePanels();
        panelOrder();
        strengthOfHours();
        strengthRoundedDown();
        strengthWrapsNowhere();
        strengthPanel();
        rollLot();
        rollWays();
        rollAcross();
        rollRows();
        longestRoll();
        Due.end();
    }

    private static void strengthsTold() {
        new Run("warp: 1 to 2000000000").outside(Run.ARGUMENT, "lot # 1 1", 1, 2000000000)
                .due(0, "lot 1 5 5").due(1, "lot 2000000000 5 5");
        new Run("weft: 1 to 2000000000").outside(Run.ARGUMENT, "lot 1 # 1", 1, 2000000000)
                .due(0, "lot 5 1 5").due(1, "lot 5 2000000000 5");
        new Run("bias: 1 to 2000000000").outside(Run.ARGUMENT, "lot 1 1 #", 1, 2000000000)
                .due(0, "lot 5 5 1").due(1, "lot 5 5 2000000000");
        new Run("each strength along its own")
                .tell("lot 10 200 3000", "panel 0 1 1 0", "panel 0 1 1 1", "panel 0 1 1 2")
                .due(10, "strength 0").due(200, "strength 1").due(3000, "strength 2");
    }

    private static void sixLots() {
        Run run = new Run("lots are numbered from 0, up to 6");
        for (int lot = 0; lot < 6; lot++) {
            run.refused(Run.INDEX, "roll " + lot);
            run.due(lot, "lot 5 5 5").due(0, "roll " + lot);
        }
        run.refused(Run.STATE, "lot 5 5 5", "lot 1 1 1", "lot 2000000000 2000000000 2000000000").refused(Run.INDEX,
                "roll 6", "sun 6 1", "panel 6 1 1 0", "canopy 6", "find 6 true");
    }

    private static void lotOrder() {
        new Run("out of range comes ahead of 6 lots").tell(SIX_LOTS).refused(Run.ARGUMENT, "lot 0 1 1", "lot 1 0 1",
                "lot 1 1 0", "lot 2000000001 1 1", "lot 1 2000000001 1", "lot 1 1 2000000001", "lot 0 0 0")
                .refused(Run.STATE, "lot 1 1 1");
    }

    private static void sunLot() {
        new Run("sun: no such lot").tell("lot 9 9 9", "lot 8 8 8", "panel 1 1 1 0").outside(Run.INDEX, "sun # 1", 0, 1)
                .due(1, "sun 0 1").due(1, "sun 1 1");
        new Run("sun: the last of six lots").tell(SIX_LOTS).due(7, "sun 5 7").outside(Run.INDEX, "sun # 7", 0, 5);
        new Run("sun: no such lot comes ahead of wrong hours").tell("lot 9 9 9").refused(Run.INDEX, "sun 1 0",
                "sun -1 10001", "sun 1 -5", "sun 6 10001");
    }

    private static void sunHours() {
        new Run("hours: 1 to 10000").tell("lot 9 9 9", "panel 0 1 1 0").outside(Run.ARGUMENT, "sun 0 #", 1, 10000)
                .due(1, "sun 0 1").due(10001, "sun 0 10000").outside(Run.ARGUMENT, "sun 0 #", 1, 10000)
                .due(10002, "sun 0 1");
        new Run("hours of sun, 0 at first, of each lot").tell("lot 1000 1 1", "lot 1000 1 1", "panel 0 1 1 0",
                "panel 1 1 1 0").due(1000, "strength 0").due(4, "sun 1 4").due(1000, "strength 0")
                .due(996, "strength 1").due(3, "sun 0 3").due(997, "strength 0").due(996, "strength 1");
        new Run("a lot told later has no hours either").tell("lot 1000 1 1", "sun 0 700", "lot 1000 1 1",
                "panel 1 1 1 0").due(1000, "strength 0").due(1, "sun 1 1");
    }

    private static void mostHours() {
        for (int more = 1; more <= 3; more++) {
            Run run = new Run("at most 1000000, from 999999, by " + more).tell("lot 1000 1 1", "panel 0 1 1 0");
            for (int tens = 1; tens <= 99; tens++) {
                run.due(tens * 10000, "sun 0 10000");
            }
            run.due(999999, "sun 0 9999").due(1000000, "sun 0 " + more).due(1000000, "sun 0 1")
                    .due(1000000, "sun 0 10000").due(100, "strength 0").refused(Run.ARGUMENT, "sun 0 0", "sun 0 10001");
        }
        Run run = new Run("at most 1000000, from 990001").tell("lot 1 1 1").due(1, "sun 0 1");
        for (int tens = 1; tens <= 99; tens++) {
            run.due(tens * 10000 + 1, "sun 0 10000");
        }
        run.due(1000000, "sun 0 10000");
    }

    private static void panelLot() {
        new Run("panel: no such lot").tell("lot 1 1 1", "lot 1 1 1").outside(Run.INDEX, "panel # 1 1 0", 0, 1)
                .due(0, "panel 0 1 1 0").due(1, "panel 1 1 1 0");
        new Run("panel: the last of six lots").tell(SIX_LOTS).due(0, "panel 5 1 1 0").due(6, "strength 0")
                .outside(Run.INDEX, "panel # 1 1 0", 0, 5);
    }

    private static void panelSizes() {
        for (int along = 0; along <= 2; along++) {
            new Run("width: 1 to 150").tell("lot 1 1 1").outside(Run.ARGUMENT, "panel 0 # 1 " + along, 1, 150)
                    .due(0, "panel 0 1 1 " + along).due(1, "panel 0 149 1 " + along)
                    .outside(Run.ARGUMENT, "panel 0 # 1 " + along, 1, 150);
            new Run("height: 1 to 150").tell("lot 1 1 1").outside(Run.ARGUMENT, "panel 0 1 # " + along, 1, 150)
                    .due(0, "panel 0 1 1 " + along).due(1, "panel 0 1 149 " + along)
                    .outside(Run.ARGUMENT, "panel 0 1 # " + along, 1, 150);
        }
        for (int along = 0; along <= 1; along++) {
            new Run("150 wide and 150 high").tell("lot 1 1 1").due(0, "panel 0 150 150 " + along)
                    .due(1, "panel 0 150 1 " + along).due(2, "panel 0 1 150 " + along).due(150, "strength 0")
                    .due(150, "strength 1").due(1, "strength 2");
        }
    }

    private static void biasTogether() {
        new Run("both together above 150 for BIAS").tell("lot 1 1 1").refused(Run.ARGUMENT, "panel 0 75 76 2",
                "panel 0 76 75 2", "panel 0 150 1 2", "panel 0 1 150 2", "panel 0 150 150 2", "panel 0 149 2 2",
                "panel 0 2147483647 1 2", "panel 0 1 2147483647 2", "panel 0 2147483647 2147483647 2",
                "panel 0 151 -1 2", "panel 0 -1 151 2", "panel 0 150 0 2", "panel 0 0 150 2")
                .due(0, "panel 0 75 75 2").due(150, "roll 0").due(1, "panel 0 149 1 2").due(2, "panel 0 1 149 2")
                .due(450, "roll 0");
        new Run("above 150 together for WARP and WEFT").tell("lot 1 1 1").due(0, "panel 0 75 76 0")
                .due(1, "panel 0 76 75 1");
    }

    private static void panelAlong() {
        new Run("along: WARP to BIAS").tell("lot 1 1 1").outside(Run.ARGUMENT, "panel 0 1 1 #", 0, 2)
                .due(0, "panel 0 1 1 0").due(1, "panel 0 1 1 1").due(2, "panel 0 1 1 2");
    }

    private static void twelvePanels() {
        Run run = new Run("panels are numbered from 0, up to 12").tell("lot 1 1 1", "lot 2 2 2");
        for (int panel = 0; panel < 12; panel++) {
            run.refused(Run.INDEX, "strength " + panel).due(panel, "panel " + panel % 2 + " 10 1 0")
                    .due(panel % 2 == 0 ? 10 : 20, "strength " + panel);
        }
        run.refused(Run.STATE, "panel 0 1 1 0", "panel 1 1 1 0", "panel 0 150 150 1", "panel 0 75 75 2")
                .refused(Run.INDEX, "strength 12", "seam 0 12 0", "seam 12 0 0", "bears 0 12", "bears 12 0",
                        "bearsAnew 12 0", "bearsAnew 0 12").due(1, "roll 0").due(1, "roll 1");
    }

    private static void panelOrder() {
        new Run("panel: no such lot comes first").tell("lot 1 1 1").refused(Run.INDEX, "panel 1 0 1 0",
                "panel 1 1 0 0", "panel 1 1 1 3", "panel 1 150 150 2", "panel -1 151 151 -1");
        new Run("panel: no such lot comes first, with 12 panels").tell("lot 1 1 1").tell(TWELVE_PANELS)
                .refused(Run.INDEX, "panel 1 1 1 0", "panel -1 1 1 0", "panel 1 0 1 0", "panel 6 150 150 2");
        new Run("panel: out of range comes ahead of 12 panels").tell("lot 1 1 1").tell(TWELVE_PANELS)
                .refused(Run.ARGUMENT, "panel 0 0 1 0", "panel 0 151 1 0", "panel 0 1 0 0", "panel 0 1 151 0",
                        "panel 0 1 1 3", "panel 0 1 1 -1", "panel 0 75 76 2").refused(Run.STATE, "panel 0 1 1 0");
    }

    private static void strengthOfHours() {
        int[][] hoursAndStrengths = {{1, 999000}, {499, 501000}, {500, 500000}, {898, 102000}, {899, 101000},
            {900, 100000}, {901, 100000}, {999, 100000}, {1000, 100000}, {1001, 100000}, {1100, 100000},
            {2000, 100000}, {10000, 100000}};
        for (int[] pair : hoursAndStrengths) {
            for (int along = 0; along <= 2; along++) {
                new Run("1000 less the hours, but at least 100").tell("lot 1000000 1000000 1000000",
                        "panel 0 1 1 " + along).due(1000000, "strength 0").due(pair[0], "sun 0 " + pair[0])
                        .due(pair[1], "strength 0");
            }
        }
    }

    private static void strengthRoundedDown() {
        new Run("divided by 1000, rounded down, then times its width").tell("lot 1999 999 1", "panel 0 150 1 0",
                "panel 0 7 1 1", "panel 0 149 1 2", "sun 0 1").due(1997L * 150, "strength 0")
                .due(998L * 7, "strength 1")
                .due(0, "strength 2").tell("sun 0 498").due(1001L * 150, "strength 0").due(500L * 7, "strength 1")
                .tell("sun 0 1").due(999L * 150, "strength 0").due(499L * 7, "strength 1").tell("sun 0 500")
                .due(199L * 150, "strength 0").due(99L * 7, "strength 1").due(0, "strength 2");
        new Run("the weakest cloth in the most sun").tell("lot 9 10 11", "sun 0 10000", "panel 0 150 1 0",
                "panel 0 150 1 1", "panel 0 75 75 2").due(0, "strength 0").due(150, "strength 1").due(75, "strength 2");
    }

    private static void strengthWrapsNowhere() {
        new Run("2000000000 times 1000, and times 150, wrap around nowhere")
                .tell("lot 2000000000 1999999999 2000000000", "panel 0 150 1 0", "panel 0 150 150 1", "panel 0 149 1 2")
                .due(300000000000L, "strength 0").due(299999999850L, "strength 1").due(298000000000L, "strength 2")
                .tell("sun 0 1").due(299700000000L, "strength 0").due(1997999999L * 150, "strength 1")
                .tell("sun 0 10000").due(30000000000L, "strength 0").due(199999999L * 150, "strength 1");
    }

    private static void strengthPanel() {
        new Run("strength: no such panel").tell("lot 1 1 1", "panel 0 1 1 0", "panel 0 2 1 0")
                .outside(Run.INDEX, "strength #", 0, 1).due(1, "strength 0").due(2, "strength 1")
                .refused(Run.INDEX, "strength 11");
        new Run("strength: the last of 12").tell("lot 1 1 1").tell(TWELVE_PANELS).due(12, "strength 11")
                .outside(Run.INDEX, "strength #", 0, 11);
    }

    private static void rollLot() {
        new Run("roll: no such lot").tell("lot 1 1 1", "lot 1 1 1").outside(Run.INDEX, "roll #", 0, 1).due(0, "roll 0")
                .due(0, "roll 1").refused(Run.INDEX, "roll 5");
        new Run("roll: each lot has its own").tell("lot 1 1 1", "lot 1 1 1", "panel 0 80 30 0", "panel 1 80 5 0")
                .due(30, "roll 0").due(5, "roll 1").tell("panel 0 70 31 0").due(31, "roll 0").due(5, "roll 1")
                .tell("panel 1 70 6 0").due(31, "roll 0").due(6, "roll 1");
        new Run("roll: the last of six lots").tell(SIX_LOTS).tell("panel 5 1 7 0").due(7, "roll 5").due(0, "roll 0")
                .outside(Run.INDEX, "roll #", 0, 5);
        new Run("roll: the sun does not shorten it").tell("lot 1 1 1", "panel 0 1 7 0", "sun 0 10000").due(7, "roll 0");
    }

    private static void rollWays() {
        new Run("WARP: as wide as it is, as long as it is high").tell("lot 1 1 1", "panel 0 149 20 0").due(20, "roll 0")
                .tell("panel 0 1 3 0").due(20, "roll 0").tell("panel 0 1 3 0").due(23, "roll 0");
        new Run("WEFT: the other way round").tell("lot 1 1 1", "panel 0 20 149 1").due(20, "roll 0")
                .tell("panel 0 3 1 1").due(20, "roll 0").tell("panel 0 3 1 1").due(23, "roll 0");
        new Run("BIAS: both together both ways").tell("lot 1 1 1", "panel 0 100 49 2").due(149, "roll 0")
                .tell("panel 0 1 3 0").due(149, "roll 0").tell("panel 0 1 3 0").due(152, "roll 0");
    }

    private static void rollAcross() {
        for (int along = 0; along <= 1; along++) {
            String last = along == 0 ? "panel 0 # 4 0" : "panel 0 4 # 1";
            new Run("room across: exactly 150").tell("lot 1 1 1", "panel 0 60 3 0", "panel 0 40 3 0",
                    Run.put(last, 50)).due(4, "roll 0");
            new Run("no room across: 151").tell("lot 1 1 1", "panel 0 60 3 0", "panel 0 40 3 0", Run.put(last, 51))
                    .due(7, "roll 0");
            new Run("no room across behind a full row").tell("lot 1 1 1", "panel 0 150 3 0", Run.put(last, 1))
                    .due(7, "roll 0");
            new Run("room across in a later row: exactly 150").tell("lot 1 1 1", "panel 0 150 3 0", "panel 0 60 3 0",
                    "panel 0 40 3 0", Run.put(last, 50)).due(7, "roll 0").tell("panel 0 1 5 0").due(12, "roll 0");
            new Run("no room across in a later row: 151").tell("lot 1 1 1", "panel 0 150 3 0", "panel 0 60 3 0",
                    "panel 0 40 3 0", Run.put(last, 51)).due(10, "roll 0").tell("panel 0 99 5 0").due(11, "roll 0")
                    .tell("panel 0 1 5 0").due(16, "roll 0");
            new Run("a whole row for one").tell("lot 1 1 1", "panel 0 1 3 0", Run.put(last, 150)).due(7, "roll 0");
        }
        new Run("room across for BIAS: exactly 150").tell("lot 1 1 1", "panel 0 100 3 0", "panel 0 20 30 2")
                .due(50, "roll 0");
        new Run("no room across for BIAS: 151").tell("lot 1 1 1", "panel 0 100 3 0", "panel 0 20 31 2")
                .due(54, "roll 0");
        new Run("a row of BIAS is full too").tell("lot 1 1 1", "panel 0 1 149 2", "panel 0 1 1 0").due(151, "roll 0");
    }

    private static void rollRows() {
        new Run("a row is as long as its longest panel, whichever comes first").tell("lot 1 1 1", "panel 0 50 9 0",
                "panel 0 50 7 0", "panel 0 50 8 0").due(9, "roll 0").tell("panel 0 50 3 0").due(12, "roll 0")
                .tell("panel 0 50 6 0").due(15, "roll 0").tell("panel 0 50 4 0").due(15, "roll 0");
        new Run("it lies beside the one ahead of it, not in an earlier row").tell("lot 1 1 1", "panel 0 100 10 0",
                "panel 0 100 20 0", "panel 0 60 5 0", "panel 0 50 7 0").due(37, "roll 0").tell("panel 0 40 8 0")
                .due(38, "roll 0");
        new Run("by numbers, past the panels of another lot").tell("lot 1 1 1", "lot 1 1 1", "panel 0 75 2 0",
                "panel 1 150 9 0", "panel 0 75 3 0", "panel 1 1 1 0", "panel 0 1 4 0").due(7, "roll 0")
                .due(10, "roll 1");
        new Run("a refused panel is not laid").tell("lot 1 1 1", "panel 0 75 2 0")
                .refused(Run.ARGUMENT, "panel 0 75 76 2", "panel 0 151 1 0", "panel 0 75 75 3").tell("panel 0 75 3 0")
                .due(3, "roll 0");
    }

    private static void longestRoll() {
        Run run = new Run("the longest roll: 12 rows of 150").tell("lot 1 1 1");
        for (int panel = 1; panel <= 12; panel++) {
            run.tell(panel % 3 == 0 ? "panel 0 75 75 2" : "panel 0 150 150 " + panel % 3 % 2)
                    .due(150 * panel, "roll 0");
        }
        run.refused(Run.STATE, "panel 0 1 1 0").due(1800, "roll 0");
    }
}
