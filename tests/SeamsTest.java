/** Promises 7 to 10: seams, ripping, and the load that goes from panel to panel. */
public final class SeamsTest {
    private static final int FLAT = BroadseamLoft.FLAT, FELLED = BroadseamLoft.FELLED, ZIGZAG = BroadseamLoft.ZIGZAG;

    public static void main(String[] args) {
        seams();
        manySeams();
        rips();
        loads();
        longWay();
        Due.end();
    }

    private static BroadseamLoft loftOf(int... widths) {
        BroadseamLoft loft = new BroadseamLoft();
        loft.lot(1000, 10, 1);
        for (int width : widths) {
            loft.panel(0, width, 1, BroadseamLoft.WARP);
        }
        return loft;
    }

    private static void bear(BroadseamLoft loft, long want, int panel, int other) {
        Due.is(want, "bears " + panel + " " + other, () -> loft.bears(panel, other));
        Due.is(want, "bearsAnew " + panel + " " + other, () -> loft.bearsAnew(panel, other));
        Due.is(want, "bears " + other + " " + panel, () -> loft.bears(other, panel));
        Due.is(want, "bearsAnew " + other + " " + panel, () -> loft.bearsAnew(other, panel));
    }

    private static void seams() {
        BroadseamLoft loft = loftOf(10, 20);
        Due.index("panel 2", () -> loft.seam(2, 0, FLAT));
        Due.index("other 2", () -> loft.seam(0, 2, FLAT));
        Due.index("panel -1", () -> loft.seam(-1, 0, FLAT));
        Due.index("other -1", () -> loft.seam(0, -1, FLAT));
        Due.index("none and both one", () -> loft.seam(5, 5, 9));
        Due.argument("both one", () -> loft.seam(1, 1, FLAT));
        Due.argument("kind -1", () -> loft.seam(0, 1, -1));
        Due.argument("kind 3", () -> loft.seam(0, 1, 3));
        Due.is(0, "flat", () -> loft.seam(0, 1, FLAT));
        Due.is(1, "felled, beside it", () -> loft.seam(1, 0, FELLED));
        Due.is(2, "zigzag", () -> loft.seam(0, 1, ZIGZAG));
        Due.is(6000L, "the strength of a flat one", () -> loft.rip(0));
        Due.is(8000L, "of a felled one", () -> loft.rip(1));
        Due.is(4000L, "of a zigzag one", () -> loft.rip(2));
        Due.is(3, "numbers are not used again", () -> loft.seam(0, 1, FLAT));
    }

    private static void manySeams() {
        BroadseamLoft loft = loftOf(10, 20);
        for (int seam = 0; seam < 30; seam++) {
            Due.is(seam, "seam " + seam, () -> loft.seam(0, 1, ZIGZAG));
        }
        Due.state("a seam too many", () -> loft.seam(0, 1, FELLED));
        Due.is(4000L, "is not sewn", () -> loft.bears(0, 1));
        Due.is(4000L, "one is ripped", () -> loft.rip(29));
        Due.state("there were 30 all the same", () -> loft.seam(0, 1, FELLED));
        Due.index("no panel before too many", () -> loft.seam(0, 2, FELLED));
        Due.argument("both one before too many", () -> loft.seam(0, 0, FELLED));
        Due.index("seam 30", () -> loft.rip(30));
    }

    private static void rips() {
        BroadseamLoft loft = loftOf(1, 1);
        Due.index("no seam yet", () -> loft.rip(0));
        loft.seam(0, 1, FELLED);
        Due.index("seam 1", () -> loft.rip(1));
        Due.index("seam -1", () -> loft.rip(-1));
        loft.sun(0, 501);
        Due.is(499L * 80 / 100, "its strength as it is now, rounded down", () -> loft.rip(0));
        Due.index("ripped already", () -> loft.rip(0));
        bear(loft, 0, 0, 1);
        loft.panel(0, 9, 1, BroadseamLoft.BIAS);
        loft.panel(0, 150, 1, BroadseamLoft.WARP);
        loft.seam(2, 3, FELLED);
        Due.is(0L, "a seam of no strength", () -> loft.bears(2, 3));
        Due.is(0L, "is one all the same", () -> loft.rip(1));
    }

    private static void loads() {
        BroadseamLoft loft = loftOf(10, 20, 30, 40, 5);
        bear(loft, 10000, 0, 0);
        bear(loft, 0, 0, 3);
        loft.seam(0, 1, ZIGZAG); // 4000
        loft.seam(1, 2, FELLED); // 16000
        loft.seam(2, 3, FLAT); // 18000
        bear(loft, 4000, 0, 3);
        bear(loft, 16000, 1, 3);
        bear(loft, 18000, 2, 3);
        bear(loft, 0, 0, 4);
        loft.seam(0, 3, FLAT); // 6000: a better way round
        bear(loft, 6000, 0, 1);
        bear(loft, 6000, 0, 2);
        loft.seam(4, 0, FELLED); // 4000
        loft.seam(4, 2, FELLED); // 4000: no better
        bear(loft, 6000, 0, 2);
        bear(loft, 4000, 4, 3);
        bear(loft, 40000, 3, 3);
        loft.rip(3);
        bear(loft, 4000, 0, 2);
        loft.sun(0, 500);
        bear(loft, 2000, 0, 2);
        bear(loft, 2500, 4, 4);
        Due.index("bears 5", () -> loft.bears(5, 0));
        Due.index("bears to 5", () -> loft.bears(0, 5));
        Due.index("bears -1", () -> loft.bears(-1, -1));
        Due.index("bearsAnew 5", () -> loft.bearsAnew(5, 0));
        Due.index("bearsAnew to -1", () -> loft.bearsAnew(0, -1));
        Due.index("bearsAnew 12 12", () -> loft.bearsAnew(12, 12));
    }

    private static void longWay() {
        BroadseamLoft loft = loftOf(20, 20, 20, 20, 20, 20, 20, 20, 20, 20, 20, 20);
        // Sewn from the far end, so that a single pass over the seams does not reach it.
        for (int panel = 10; panel >= 0; panel--) {
            loft.seam(panel, panel + 1, FELLED);
        }
        bear(loft, 16000, 0, 11);
        loft.seam(0, 11, ZIGZAG);
        bear(loft, 16000, 0, 11);
        Due.is(16000L, "a ripped link", () -> loft.rip(5));
        bear(loft, 8000, 0, 11);
        bear(loft, 8000, 5, 6);
        bear(loft, 16000, 0, 5);
    }
}
