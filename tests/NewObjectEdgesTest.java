/** Promise 1 and "What it is": nothing there yet, nothing shared, and 512 calls. */
public final class NewObjectEdgesTest {
    public static void main(String[] args) {
        nothingThereYet();
        netAndSailAtFirst();
        dayZero();
        nothingShared();
        lastCallOfALoft();
        Due.end();
    }

    private static void nothingThereYet() {
        new Run("no lots").refused(Run.INDEX, "roll 0", "sun 0 1", "panel 0 1 1 0", "canopy 0", "find 0 true",
                "find 0 false").outside(Run.INDEX, "roll #", 0, -1);
        new Run("no panels, with a lot").tell("lot 1 1 1").refused(Run.INDEX, "strength 0", "seam 0 1 0", "seam 0 0 0",
                "bears 0 0", "bearsAnew 0 0");
        new Run("no seams, with panels").tell("lot 1 1 1", "panel 0 1 1 0", "panel 0 1 1 0").refused(Run.INDEX, "rip 0")
                .due(0, "bears 0 1").due(0, "bearsAnew 0 1").due(0, "bears 1 0").due(0, "bearsAnew 1 0");
        new Run("no pegs").due(0, "pegs").refused(Run.INDEX, "pulled 0").due(0, "gust 0").due(0, "gust 40000000000000")
                .due(0, "pegs").refused(Run.INDEX, "pulled 0").due(0, "peg 5 5").due(0, "pulled 0");
        new Run("no canopies, with a lot").tell("lot 1 1 1").refused(Run.INDEX, "part 0 0", "opens 0", "seal 0 0",
                "use 0", "wet 0 false", "wet 0 true", "ofCanopy 0 0", "lifeAnew 0 3").due(0, "find 0 true");
        new Run("a canopy without anything").tell("lot 1 1 1", "canopy 0").due(0, "opens 0").due(0, "ofCanopy 0 0")
                .due(-1, "ofCanopy 0 1").due(-1, "ofCanopy 0 2").due(0, "ofCanopy 0 3").due(0, "ofCanopy 0 4")
                .due(0, "ofCanopy 0 5").due(0, "lifeAnew 0 3").due(0, "lifeAnew 0 4").due(0, "lifeAnew 0 5")
                .refused(Run.STATE, "seal 0 0", "use 0").due(0, "wet 0 true").due(1, "wet 0 false");
    }

    private static void netAndSailAtFirst() {
        Run heights = new Run("each knot at a height, 0 at first");
        for (int knot = 0; knot < 36; knot++) {
            heights.due(0, "height " + knot);
        }
        heights.due(0, "rest 50");
        new Run("the load, 0 at first").due(0, "load 100");
        new Run("the sail: halyard, sheet and reefs all 0 at first").due(6.0f, "power 1").due(0, "halyard 1 6")
                .due(1, "halyard 10 599");
    }

    private static void dayZero() {
        new Run("the day 0").due(1, "pass 1");
        new Run("a seal of the day 0 is one").tell("lot 1 1 1", "canopy 0", "part 0 0").due(1, "seal 0 0")
                .due(0, "ofCanopy 0 1").due(0, "ofCanopy 0 2").refused(Run.STATE, "seal 0 0", "part 0 0", "wet 0 true")
                .due(0, "use 0").due(-1, "ofCanopy 0 1").due(-1, "ofCanopy 0 2");
    }

    private static void nothingShared() {
        BroadseamLoft told = new BroadseamLoft();
        String[] calls = {"lot 5 5 5", "panel 0 5 5 0", "panel 0 5 5 0", "seam 0 1 0", "sun 0 5", "knot 0 5 false",
            "load 5", "rest 5", "peg 5 5", "gust 5", "trim 5 5 3", "pass 5", "canopy 0", "part 0 0", "wet 0 false",
            "seal 0 4", "find 0 true"};
        for (String call : calls) {
            new Line(call).on(told);
        }
        nothingThereYet();
        netAndSailAtFirst();
        dayZero();
    }

    private static void lastCallOfALoft() {
        Run wet = new Run("512 calls: wet").tell("lot 1 1 1", "canopy 0");
        for (int times = 1; times <= 509; times++) {
            wet.due(times, "wet 0 false");
        }
        wet.due(509, "lifeAnew 0 5");
        for (int what = 3; what <= 4; what++) {
            Run sealed = new Run("512 calls: sealed and used").tell("lot 1 1 1", "canopy 0", "part 0 0");
            for (int times = 1; times <= 254; times++) {
                sealed.due(times, "seal 0 4").due(4, "use 0");
            }
            sealed.due(254, "lifeAnew 0 " + what);
        }
        Run last = new Run("512 calls: the last one is noted").tell("lot 1 1 1", "canopy 0", "part 0 0");
        for (int times = 1; times <= 508; times++) {
            last.due(times % 2, "wet 0 " + (times % 2 == 0));
        }
        last.due(1, "seal 0 0");
    }
}
