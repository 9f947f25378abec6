/** Promises 11 to 14: knots, the load, steps to rest, heights. */
public final class NetTest {
    public static void main(String[] args) {
        knots();
        borders();
        loads();
        rests();
        corners();
        downward();
        Due.end();
    }

    private static void heights(BroadseamLoft loft, String what, int... knotsAndHeights) {
        for (int pair = 0; pair < knotsAndHeights.length; pair += 2) {
            int knot = knotsAndHeights[pair];
            Due.is(knotsAndHeights[pair + 1], what + ", knot " + knot, () -> loft.height(knot));
        }
    }

    private static void knots() {
        BroadseamLoft loft = new BroadseamLoft();
        Due.index("knot 36", () -> loft.knot(36, 0, true));
        Due.index("knot -1", () -> loft.knot(-1, 0, true));
        Due.index("knot 36, too high", () -> loft.knot(36, 10001, true));
        Due.argument("too high", () -> loft.knot(0, 10001, true));
        Due.argument("too low", () -> loft.knot(0, -10001, true));
        Due.argument("far too low", () -> loft.knot(0, Integer.MIN_VALUE, true));
        Due.is(0, "nothing was moved", () -> loft.height(0));
        Due.is(0, "the highest", () -> loft.knot(0, 10000, true));
        Due.is(10000, "the lowest, after the highest", () -> loft.knot(0, -10000, true));
        Due.is(-10000, "stands", () -> loft.height(0));
        Due.is(0, "the last knot", () -> loft.knot(35, 7, true));
        Due.is(7, "stands too", () -> loft.height(35));
        Due.index("height 36", () -> loft.height(36));
        Due.index("height -1", () -> loft.height(-1));
    }

    private static void borders() {
        BroadseamLoft loft = new BroadseamLoft();
        loft.load(5);
        loft.rest(1);
        for (int row = 0; row < 6; row++) {
            for (int column = 0; column < 6; column++) {
                boolean isBorder = row == 0 || row == 5 || column == 0 || column == 5;
                heights(loft, "fixed at the border at first", 6 * row + column, isBorder ? 0 : -5);
            }
        }
        BroadseamLoft other = new BroadseamLoft();
        other.knot(1, 8, true);
        other.knot(34, 8, true);
        Due.is(1, "two knots come up", () -> other.rest(50));
        heights(other, "corners are fixed at first", 0, 0, 7, 2, 35, 0, 28, 2);
    }

    private static void loads() {
        BroadseamLoft loft = new BroadseamLoft();
        Due.is(0, "none at first", () -> loft.load(100));
        Due.argument("101", () -> loft.load(101));
        Due.argument("-1", () -> loft.load(-1));
        Due.is(100, "the one before", () -> loft.load(3));
        Due.is(3, "the one before it", () -> loft.load(0));
    }

    private static void rests() {
        BroadseamLoft loft = new BroadseamLoft();
        Due.argument("no steps", () -> loft.rest(0));
        Due.argument("51 steps", () -> loft.rest(51));
        Due.argument("-1 steps", () -> loft.rest(-1));
        Due.is(0, "it rests at first", () -> loft.rest(50));
        loft.knot(14, 100, true);
        Due.is(1, "a step", () -> loft.rest(1));
        heights(loft, "a step", 14, 100, 8, 25, 20, 25, 13, 25, 15, 25, 7, 0, 21, 0, 2, 0, 16, 0);
        Due.is(1, "a second step", () -> loft.rest(1));
        // From the heights ahead of the step alone: 7 has 8 and 13, 16 has 15.
        heights(loft, "a second step", 7, 12, 16, 6, 8, 25, 22, 0, 21, 12);
        Due.is(12, "until it rests", () -> loft.rest(50));
        Due.is(0, "then it rests", () -> loft.rest(50));
        heights(loft, "at rest", 0, 0, 2, 0, 7, 17, 12, 0);
        loft.knot(14, 100, false);
        Due.is(1, "free, it comes down", () -> loft.rest(1));
        Due.is(true, "below the highest beside it", () -> loft.height(14) < 50);
    }

    private static void corners() {
        BroadseamLoft loft = new BroadseamLoft();
        loft.knot(0, 500, false);
        loft.knot(1, 7, true);
        loft.knot(6, 10, true);
        loft.knot(35, 0, false);
        loft.knot(34, -7, true);
        loft.knot(29, 0, true);
        loft.knot(30, 0, false);
        loft.knot(24, 9, true);
        loft.knot(5, 0, false);
        loft.knot(4, -1, true);
        loft.knot(3, 0, false);
        Due.is(1, "a step", () -> loft.rest(1));
        // Corners have two beside them, edges three; all rounded down.
        heights(loft, "corners and edges", 0, 8, 35, -4, 30, 4, 5, -1, 3, -1);
        loft.load(2);
        loft.rest(1);
        heights(loft, "under a load", 0, 6, 35, -6, 30, 2, 5, -3);
    }

    private static void downward() {
        BroadseamLoft loft = new BroadseamLoft();
        for (int knot = 0; knot < 36; knot++) {
            loft.knot(knot, 0, false);
        }
        loft.load(100);
        Due.is(50, "a net that hangs on nothing never rests", () -> loft.rest(50));
        heights(loft, "fifty steps down", 0, -5000, 14, -5000, 35, -5000);
        loft.load(0);
        Due.is(0, "without a load it does", () -> loft.rest(50));
        loft.knot(14, -5000, true);
        loft.load(1);
        Due.is(3, "just as many steps as are told", () -> loft.rest(3));
        heights(loft, "three steps more", 14, -5000, 0, -5003);
    }
}
