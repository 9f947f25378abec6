/** Promises 11 to 14, and "Nets": each sentence that names an edge. */
public final class NetEdgesTest {
    public static void main(String[] args) {
        knotNumbers();
        knotHeights();
        knotBefore();
        knotOrder();
        loadRange();
        loadBefore();
        stepsRange();
        stepsCounted();
        exactlyAsManySteps();
        heightNumbers();
        besideEachKnot();
        bordersFixedAtFirst();
        fixedStays();
        aheadOfTheStep();
        roundedDownBelowZero();
        lessTheLoad();
        notAboveTheHighest();
        deepNet();
        Due.end();
    }

    private static void knotNumbers() {
        new Run("knot: 0 to 35").outside(Run.INDEX, "knot # 5 true", 0, 35).due(0, "knot 0 1 true")
                .due(0, "knot 35 2 false").due(1, "height 0").due(2, "height 35")
                .outside(Run.INDEX, "knot # 5 false", 0, 35);
    }

    private static void knotHeights() {
        for (String fixed : new String[] {"true", "false"}) {
            new Run("height: -10000 to 10000").outside(Run.ARGUMENT, "knot 14 # " + fixed, -10000, 10000)
                    .due(0, "knot 14 -10000 " + fixed).due(-10000, "knot 14 10000 " + fixed).due(10000, "height 14")
                    .outside(Run.ARGUMENT, "knot 14 # " + fixed, -10000, 10000)
                    .outside(Run.ARGUMENT, "knot 0 # " + fixed, -10000, 10000);
        }
    }

    private static void knotBefore() {
        new Run("knot: the height before").due(0, "knot 7 5 true").due(5, "knot 7 5 false").due(5, "knot 7 -3 true")
                .due(-3, "knot 7 0 true").due(0, "height 7");
        new Run("knot: the height to which it came before").tell("knot 14 100 true", "rest 1").due(25, "knot 8 0 true")
                .due(25, "knot 13 0 true").due(100, "knot 14 0 true");
    }

    private static void knotOrder() {
        new Run("knot: no such knot comes first").refused(Run.INDEX, "knot 36 10001 true", "knot -1 -10001 false",
                "knot 36 -10001 true", "knot -1 10001 true", "knot 2147483647 2147483647 true");
    }

    private static void loadRange() {
        new Run("load: 0 to 100").outside(Run.ARGUMENT, "load #", 0, 100).due(0, "load 100").due(100, "load 0")
                .due(0, "load 1").outside(Run.ARGUMENT, "load #", 0, 100).due(1, "load 99");
    }

    private static void loadBefore() {
        new Run("load: the one before").due(0, "load 3").due(3, "load 3").due(3, "load 100").due(100, "load 7")
                .due(7, "load 0").due(0, "load 0");
    }

    private static void stepsRange() {
        new Run("most: 1 to 50").outside(Run.ARGUMENT, "rest #", 1, 50).due(0, "rest 1").due(0, "rest 50");
        new Run("most: 1 to 50, in a net that moves").tell("knot 14 10000 true", "load 3")
                .outside(Run.ARGUMENT, "rest #", 1, 50).due(1, "rest 1").outside(Run.ARGUMENT, "rest #", 1, 50);
        Run free = new Run("at most as many as told, to 50");
        for (int knot = 0; knot < 36; knot++) {
            free.tell("knot " + knot + " 0 false");
        }
        free.tell("load 1").due(1, "rest 1").due(-1, "height 0").due(49, "rest 49").due(-50, "height 14")
                .due(50, "rest 50").due(-100, "height 35").due(2, "rest 2").due(-102, "height 0");
    }

    private static void stepsCounted() {
        new Run("steps in which a knot moved: none").due(0, "rest 1").due(0, "rest 50").tell("knot 14 0 true")
                .due(0, "rest 50");
        new Run("steps in which a knot moved: one").tell("knot 1 8 true").due(1, "rest 50").due(2, "height 7")
                .due(0, "rest 50");
        new Run("a knot that is fixed anew does not move in a step").tell("knot 0 500 true").due(0, "rest 50");
        new Run("one free knot among fixed ones").tell("knot 0 500 false").due(1, "rest 50").due(0, "height 0")
                .due(0, "rest 1");
    }

    private static void exactlyAsManySteps() {
        int[] mosts = {12, 13, 14, 15, 50};
        for (int most : mosts) {
            Run run = new Run("until it rests, 14 steps, of at most " + most).tell("knot 14 100 true");
            run.due(Math.min(most, 14), "rest " + most).due(Math.max(14 - most, 0), "rest 50").due(0, "rest 1")
                    .due(17, "height 7");
        }
        Run run = new Run("step by step").tell("knot 14 100 true");
        for (int step = 1; step <= 14; step++) {
            run.due(1, "rest 1");
        }
        run.due(0, "rest 1").due(17, "height 7");
    }

    private static void heightNumbers() {
        new Run("height: 0 to 35").outside(Run.INDEX, "height #", 0, 35).tell("knot 0 4 true", "knot 35 -4 true")
                .due(4, "height 0").due(-4, "height 35").due(0, "height 1").due(0, "height 34")
                .outside(Run.INDEX, "height #", 0, 35);
    }

    private static int toldHeight(int knot, int turn) {
        return knot * knot * 7 - 4000 + turn * knot % 11;
    }

    private static int comesTo(int knot, int turn) {
        int sum = 0;
        int count = 0;
        for (int other = 0; other < 36; other++) {
            int rows = Math.abs(knot / 6 - other / 6);
            int columns = Math.abs(knot % 6 - other % 6);
            if (rows + columns == 1) {
                sum += toldHeight(other, turn);
                count++;
            }
        }
        return Math.floorDiv(sum, count);
    }

    private static void besideEachKnot() {
        for (int knot = 0; knot < 36; knot++) {
            for (int turn = 1; turn <= 3; turn++) {
                Run run = new Run("above, below, left and right of knot " + knot + ", as far as they are there");
                for (int other = 0; other < 36; other++) {
                    run.tell("knot " + other + " " + (other == knot ? 10000 : toldHeight(other, turn)) + " "
                            + (other != knot));
                }
                run.due(1, "rest 1").due(comesTo(knot, turn), "height " + knot).due(0, "rest 1").tell("load 100")
                        .due(1, "rest 50").due(comesTo(knot, turn) - 100, "height " + knot);
            }
        }
    }

    private static void bordersFixedAtFirst() {
        Run run = new Run("those of the first and the last row and column are fixed at first").tell("load 100")
                .due(1, "rest 1");
        for (int knot = 0; knot < 36; knot++) {
            boolean isBorder = knot < 6 || knot >= 30 || knot % 6 == 0 || knot % 6 == 5;
            run.due(isBorder ? 0 : -100, "height " + knot);
        }
    }

    private static void fixedStays() {
        new Run("a fixed knot stays, whatever is beside it").tell("knot 14 300 true").due(1, "rest 1")
                .due(300, "height 14").due(75, "height 13").tell("load 100").due(1, "rest 1").due(300, "height 14")
                .due(0, "height 2");
        new Run("lets it free there").tell("knot 14 300 true").due(1, "rest 1").due(300, "knot 14 300 false")
                .due(300, "height 14").due(1, "rest 1").due(75, "height 14");
        new Run("fixes it there").tell("knot 14 300 false", "rest 1").due(0, "knot 14 300 true").due(1, "rest 1")
                .due(300, "height 14");
        new Run("a knot of the border is let free and fixed again").tell("knot 0 300 false", "knot 1 9 true")
                .due(1, "rest 1").due(4, "height 0").due(4, "knot 0 300 true").due(0, "rest 1").due(300, "height 0");
    }

    private static void aheadOfTheStep() {
        new Run("the heights as they were ahead of the step").tell("knot 14 400 true").due(1, "rest 1")
                .due(100, "height 8").due(100, "height 13").due(100, "height 15").due(100, "height 20")
                .due(0, "height 7").due(0, "height 9").due(0, "height 21").due(0, "height 16").due(0, "height 26")
                .due(1, "rest 1").due(50, "height 7").due(50, "height 9").due(50, "height 21").due(25, "height 16")
                .due(25, "height 26").due(100, "height 8").due(100, "height 15");
        new Run("two free knots that change their heights").tell("knot 0 100 false", "knot 1 0 false", "knot 6 0 true",
                "knot 2 0 true", "knot 7 0 true").due(1, "rest 1").due(0, "height 0").due(33, "height 1")
                .due(1, "rest 1")
                .due(16, "height 0").due(0, "height 1");
    }

    private static void roundedDownBelowZero() {
        int[][] toldAndCome = {{-1, -1}, {-2, -1}, {-3, -1}, {-4, -1}, {-5, -2}, {-7, -2}, {-8, -2}, {-9, -3}, {1, 0},
            {3, 0}, {4, 1}, {7, 1}, {-9999, -2500}, {9999, 2499}};
        for (int[] pair : toldAndCome) {
            new Run("rounded down, also below 0, by four").tell("knot 1 " + pair[0] + " true", "knot 7 10000 false",
                    "knot 8 0 true", "knot 13 0 true").due(1, "rest 1").due(pair[1], "height 7");
        }
        int[][] byThree = {{-1, -1}, {-2, -1}, {-3, -1}, {-4, -2}, {2, 0}, {3, 1}, {5, 1}};
        for (int[] pair : byThree) {
            new Run("rounded down, also below 0, by three").tell("knot 2 " + pair[0] + " true", "knot 1 10000 false",
                    "knot 7 0 true").due(1, "rest 1").due(pair[1], "height 1");
        }
        int[][] byTwo = {{-1, -1}, {-2, -1}, {-3, -2}, {1, 0}, {2, 1}, {3, 1}};
        for (int[] pair : byTwo) {
            new Run("rounded down, also below 0, by two").tell("knot 34 " + pair[0] + " true", "knot 35 10000 false")
                    .due(1, "rest 1").due(pair[1], "height 35");
        }
    }

    private static void lessTheLoad() {
        new Run("divided first, then less the load").tell("knot 1 7 true", "knot 7 0 false", "knot 8 0 true",
                "knot 13 0 true", "load 2").due(1, "rest 1").due(-1, "height 7").tell("load 1").due(1, "rest 1")
                .due(0, "height 7").tell("load 100").due(1, "rest 1").due(-99, "height 7").tell("load 0")
                .due(1, "rest 1").due(1, "height 7");
        new Run("a load alone moves the net").tell("load 1").due(1, "rest 1").due(-1, "height 14").due(0, "height 0");
    }

    private static void notAboveTheHighest() {
        Run level = new Run("as high as the highest of these, when all are as high");
        for (int knot = 0; knot < 36; knot++) {
            level.tell("knot " + knot + " 77 " + (knot != 14));
        }
        level.tell("knot 14 78 false").due(1, "rest 50").due(77, "height 14").tell("knot 14 -78 false")
                .due(1, "rest 50")
                .due(77, "height 14").tell("load 1").due(1, "rest 50").due(76, "height 14");
        new Run("slack does not push: from the highest told it comes down").tell("knot 14 10000 false")
                .due(1, "rest 1").due(0, "height 14").due(2500, "height 13");
    }

    private static void deepNet() {
        Run run = new Run("a net that hangs on nothing: no height wraps around");
        for (int knot = 0; knot < 36; knot++) {
            run.tell("knot " + knot + " -10000 false");
        }
        run.tell("load 100");
        for (int rests = 1; rests <= 468; rests++) {
            run.due(50, "rest 50");
        }
        int deep = -10000 - 468 * 50 * 100;
        run.due(deep, "height 0").due(deep, "height 35").due(deep, "knot 14 10000 true").due(10000, "height 14")
                .due(1, "rest 1").due(Math.floorDiv(3 * deep + 10000, 4) - 100, "height 8");
    }
}
