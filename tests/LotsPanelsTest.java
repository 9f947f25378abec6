/** Promises 1 to 6: a new object, lots, sun, panels, strengths and rolls. */
public final class LotsPanelsTest {
    private static final int WARP = BroadseamLoft.WARP, WEFT = BroadseamLoft.WEFT, BIAS = BroadseamLoft.BIAS;

    public static void main(String[] args) {
        newObject();
        lots();
        sun();
        panels();
        panelsInWrongOrder();
        strengths();
        rolls();
        Due.end();
    }

    private static void newObject() {
        BroadseamLoft loft = new BroadseamLoft();
        Due.index("no lot", () -> loft.roll(0));
        Due.index("no panel", () -> loft.strength(0));
        Due.index("no seam", () -> loft.rip(0));
        Due.index("no peg", () -> loft.pulled(0));
        Due.index("no canopy", () -> loft.opens(0));
        Due.is(0, "no pegs in", loft::pegs);
        for (int knot = 0; knot < 36; knot++) {
            int number = knot;
            Due.is(0, "knot " + knot, () -> loft.height(number));
        }
        Due.is(0, "no load", () -> loft.load(0));
        Due.is(0.15f * 40.0f * 1 * 1, "the sail is untrimmed", () -> loft.power(1));
        Due.is(1, "the day was 0", () -> loft.pass(1));
        BroadseamLoft other = new BroadseamLoft();
        Due.is(0, "a lot of one", () -> loft.lot(1, 1, 1));
        Due.index("is no lot of another", () -> other.sun(0, 1));
    }

    private static void lots() {
        BroadseamLoft loft = new BroadseamLoft();
        int most = 2000000000;
        int[] wrong = {0, -1, Integer.MIN_VALUE, most + 1, Integer.MAX_VALUE};
        for (int strength : wrong) {
            Due.argument("warp " + strength, () -> loft.lot(strength, 1, 1));
            Due.argument("weft " + strength, () -> loft.lot(1, strength, 1));
            Due.argument("bias " + strength, () -> loft.lot(1, 1, strength));
        }
        Due.is(0, "the least lot", () -> loft.lot(1, 1, 1));
        Due.is(1, "the strongest lot", () -> loft.lot(most, most, most));
        for (int lot = 2; lot < 6; lot++) {
            Due.is(lot, "lot " + lot, () -> loft.lot(1, 2, 3));
        }
        Due.state("a seventh lot", () -> loft.lot(1, 2, 3));
        Due.argument("a wrong seventh lot", () -> loft.lot(0, 2, 3));
        Due.is(0, "the sixth stands", () -> loft.roll(5));
        Due.index("no seventh stands", () -> loft.roll(6));
    }

    private static void sun() {
        BroadseamLoft loft = new BroadseamLoft();
        loft.lot(1000, 1000, 1000);
        loft.lot(1000, 1000, 1000);
        loft.panel(0, 1, 1, WARP);
        loft.panel(1, 1, 1, WARP);
        Due.index("lot 2", () -> loft.sun(2, 1));
        Due.index("lot -1", () -> loft.sun(-1, 1));
        Due.index("lot 2, no hours", () -> loft.sun(2, 0));
        Due.argument("no hours", () -> loft.sun(0, 0));
        Due.argument("hours back", () -> loft.sun(0, -5));
        Due.argument("too many hours", () -> loft.sun(0, 10001));
        Due.is(1, "an hour", () -> loft.sun(0, 1));
        Due.is(10001, "10000 more", () -> loft.sun(0, 10000));
        Due.is(3, "the other lot has its own", () -> loft.sun(1, 3));
        Due.is(997L, "which ages by them", () -> loft.strength(1));
        for (int more = 2; more <= 99; more++) {
            int hours = more * 10000 + 1;
            Due.is(hours, "hours " + hours, () -> loft.sun(0, 10000));
        }
        Due.is(999999, "just below the most", () -> loft.sun(0, 9998));
        Due.is(1000000, "no more than the most", () -> loft.sun(0, 2));
        Due.is(1000000, "and no more", () -> loft.sun(0, 10000));
    }

    private static void panels() {
        BroadseamLoft loft = new BroadseamLoft();
        loft.lot(1, 1, 1);
        Due.is(0, "the largest", () -> loft.panel(0, 150, 150, WARP));
        Due.is(1, "the least", () -> loft.panel(0, 1, 1, WEFT));
        Due.is(2, "150 together", () -> loft.panel(0, 149, 1, BIAS));
        Due.argument("151 together", () -> loft.panel(0, 75, 76, BIAS));
        Due.argument("151 together, all across", () -> loft.panel(0, 150, 1, BIAS));
        int[] wrong = {0, -1, 151, Integer.MIN_VALUE, Integer.MAX_VALUE};
        for (int size : wrong) {
            Due.argument("width " + size, () -> loft.panel(0, size, 1, WARP));
            Due.argument("height " + size, () -> loft.panel(0, 1, size, WEFT));
            Due.argument("bias width " + size, () -> loft.panel(0, size, 1, BIAS));
            Due.argument("bias height " + size, () -> loft.panel(0, size, size, BIAS));
        }
        Due.argument("along -1", () -> loft.panel(0, 1, 1, -1));
        Due.argument("along 3", () -> loft.panel(0, 1, 1, 3));
        for (int panel = 3; panel < 12; panel++) {
            Due.is(panel, "panel " + panel, () -> loft.panel(0, 1, 1, WARP));
        }
        Due.is(302, "the roll of 12", () -> loft.roll(0));
        Due.state("a thirteenth", () -> loft.panel(0, 150, 150, WARP));
        Due.is(302, "is not laid", () -> loft.roll(0));
        Due.index("nor there", () -> loft.strength(12));
    }

    private static void panelsInWrongOrder() {
        BroadseamLoft loft = new BroadseamLoft();
        Due.index("no lot before no width", () -> loft.panel(0, 0, 0, 9));
        loft.lot(1, 1, 1);
        for (int panel = 0; panel < 12; panel++) {
            loft.panel(0, 1, 1, WARP);
        }
        Due.index("no lot before too many", () -> loft.panel(1, 1, 1, WARP));
        Due.index("lot -1", () -> loft.panel(-1, 1, 1, WARP));
        Due.argument("no width before too many", () -> loft.panel(0, 0, 1, WARP));
    }

    private static void strengths() {
        BroadseamLoft loft = new BroadseamLoft();
        loft.lot(2000000000, 999, 1);
        loft.panel(0, 150, 1, WARP);
        loft.panel(0, 7, 1, WEFT);
        loft.panel(0, 3, 1, BIAS);
        Due.is(300000000000L, "the strongest", () -> loft.strength(0));
        Due.is(6993L, "along the weft", () -> loft.strength(1));
        Due.is(3L, "along the bias", () -> loft.strength(2));
        loft.sun(0, 1);
        Due.is(299700000000L, "an hour later", () -> loft.strength(0));
        Due.is(7L * 998, "rounded down ahead of the width", () -> loft.strength(1));
        Due.is(0L, "down to nothing", () -> loft.strength(2));
        loft.sun(0, 898);
        Due.is(7L * (999 * 101 / 1000), "899 hours", () -> loft.strength(1));
        loft.sun(0, 1);
        Due.is(7L * 99, "900 hours", () -> loft.strength(1));
        loft.sun(0, 1);
        Due.is(7L * 99, "no weaker than a tenth", () -> loft.strength(1));
        loft.sun(0, 10000);
        Due.is(30000000000L, "however much sun", () -> loft.strength(0));
        Due.index("panel 3", () -> loft.strength(3));
        Due.index("panel -1", () -> loft.strength(-1));
        Due.index("panel 12", () -> loft.strength(12));
    }

    private static void rolls() {
        BroadseamLoft loft = new BroadseamLoft();
        loft.lot(1, 1, 1);
        loft.lot(1, 1, 1);
        Due.is(0, "an empty roll", () -> loft.roll(0));
        loft.panel(0, 100, 20, WARP);
        Due.is(20, "as long as it is high", () -> loft.roll(0));
        loft.panel(0, 30, 50, WEFT);
        Due.is(30, "exactly beside it, as long as it is wide", () -> loft.roll(0));
        loft.panel(1, 9, 8, WARP);
        Due.is(8, "the other lot has its own roll", () -> loft.roll(1));
        loft.panel(0, 1, 5, WARP);
        Due.is(35, "a row begins", () -> loft.roll(0));
        loft.panel(0, 100, 50, BIAS);
        Due.is(185, "both together both ways", () -> loft.roll(0));
        loft.panel(0, 1, 1, WARP);
        Due.is(186, "behind the rows, not into an earlier one", () -> loft.roll(0));
        loft.panel(0, 2, 2, BIAS);
        Due.is(189, "a row is as long as its longest", () -> loft.roll(0));
        loft.panel(0, 3, 1, WEFT);
        Due.is(189, "a shorter one beside it", () -> loft.roll(0));
        loft.panel(1, 150, 1, WARP);
        loft.panel(1, 50, 2, WARP);
        loft.panel(1, 100, 3, WARP);
        Due.is(12, "a later row is filled to 150 as well", () -> loft.roll(1));
        Due.index("roll 2", () -> loft.roll(2));
        Due.index("roll -1", () -> loft.roll(-1));
    }
}
