/** Promises 15 to 18: pegs, gusts, what each got, which are in. */
public final class PegsTest {
    private static final long MOST_HOLD = 4000000000000L;
    private static final long MOST_FORCE = 40000000000000L;

    public static void main(String[] args) {
        drives();
        wrongGusts();
        shares();
        roundsOfSharing();
        latecomers();
        oneByOne();
        greatest();
        Due.end();
    }

    private static void got(BroadseamLoft loft, String what, long... forces) {
        for (int peg = 0; peg < forces.length; peg++) {
            int number = peg;
            Due.is(forces[peg], what + ", peg " + peg, () -> loft.pulled(number));
        }
    }

    private static void drives() {
        BroadseamLoft loft = new BroadseamLoft();
        Due.argument("hold -1", () -> loft.peg(-1, 1));
        Due.argument("hold too great", () -> loft.peg(MOST_HOLD + 1, 1));
        Due.argument("hold far too great", () -> loft.peg(Long.MAX_VALUE, 1));
        Due.argument("stiffness 0", () -> loft.peg(0, 0));
        Due.argument("stiffness 101", () -> loft.peg(0, 101));
        Due.is(0, "none is in", loft::pegs);
        Due.is(0, "the least", () -> loft.peg(0, 1));
        Due.is(1, "the greatest", () -> loft.peg(MOST_HOLD, 100));
        for (int peg = 2; peg < 8; peg++) {
            Due.is(peg, "peg " + peg, () -> loft.peg(5, 5));
        }
        Due.is(255, "all are in", loft::pegs);
        Due.state("a ninth", () -> loft.peg(5, 5));
        Due.argument("a wrong ninth", () -> loft.peg(-5, 5));
        got(loft, "ahead of the first gust", 0, 0, 0, 0, 0, 0, 0, 0);
        Due.index("pulled 8", () -> loft.pulled(8));
        Due.is(8, "all come out", () -> loft.gust(MOST_FORCE));
        Due.state("there were 8 all the same", () -> loft.peg(5, 5));
    }

    private static void wrongGusts() {
        BroadseamLoft loft = new BroadseamLoft();
        Due.is(0, "no pegs", () -> loft.gust(7));
        Due.index("pulled 0", () -> loft.pulled(0));
        loft.peg(10, 3);
        Due.index("pulled -1", () -> loft.pulled(-1));
        Due.index("pulled 1", () -> loft.pulled(1));
        Due.argument("force -1", () -> loft.gust(-1));
        Due.argument("too great a force", () -> loft.gust(MOST_FORCE + 1));
        Due.argument("far too great a force", () -> loft.gust(Long.MIN_VALUE));
        got(loft, "after wrong gusts", 0);
        Due.is(1, "it is in", loft::pegs);
    }

    private static void shares() {
        BroadseamLoft loft = new BroadseamLoft();
        loft.peg(1000, 1);
        loft.peg(1000, 2);
        loft.peg(1000, 4);
        Due.is(0, "it holds", () -> loft.gust(100));
        got(loft, "100 by 1, 2, 4; 1 left over to the lowest", 15, 28, 57);
        Due.is(0, "nothing", () -> loft.gust(0));
        got(loft, "of nothing", 0, 0, 0);
        Due.is(0, "a little", () -> loft.gust(6));
        got(loft, "6 by 1, 2, 4", 2, 1, 3);
        Due.is(7, "all are in", loft::pegs);
    }

    private static void roundsOfSharing() {
        BroadseamLoft loft = new BroadseamLoft();
        loft.peg(34, 1);
        loft.peg(50, 1);
        loft.peg(101, 1);
        Due.is(0, "as much as the hold", () -> loft.gust(100));
        got(loft, "100 by three", 34, 33, 33);
        Due.is(2, "one more, and two come out one by one", () -> loft.gust(101));
        // First 35, 33, 33; then 51, 50 for the others; then 101 for the last.
        got(loft, "in the latest sharing each was in", 35, 51, 101);
        Due.is(4, "the last is in", loft::pegs);
        Due.is(1, "it comes out", () -> loft.gust(102));
        Due.is(0, "none is in", loft::pegs);
        Due.is(0, "nothing to share among", () -> loft.gust(500));
        got(loft, "what they got stays", 35, 51, 102);
    }

    private static void latecomers() {
        BroadseamLoft loft = new BroadseamLoft();
        loft.peg(0, 1);
        Due.is(0, "a gust of nothing pulls none", () -> loft.gust(0));
        Due.is(1, "nor does it come out", loft::pegs);
        Due.is(1, "a gust of 1 does", () -> loft.gust(1));
        Due.is(1, "numbers are not used again", () -> loft.peg(20, 100));
        got(loft, "0 ahead of its first gust", 1, 0);
        Due.is(2, "the new one is in", loft::pegs);
        Due.is(0, "it has all", () -> loft.gust(20));
        got(loft, "the old one's stays", 1, 20);
    }

    private static void oneByOne() {
        BroadseamLoft loft = new BroadseamLoft();
        for (int peg = 0; peg < 8; peg++) {
            loft.peg(840 / (8 - peg) - 1, 1);
        }
        Due.is(8, "each comes out in a sharing of its own", () -> loft.gust(840));
        got(loft, "one by one", 105, 120, 140, 168, 210, 280, 420, 840);
        Due.is(0, "none is in", loft::pegs);
    }

    private static void greatest() {
        BroadseamLoft loft = new BroadseamLoft();
        for (int peg = 0; peg < 8; peg++) {
            loft.peg(peg == 7 ? MOST_HOLD : peg * 1000000000L, 100 - peg);
        }
        Due.is(8, "the greatest gust", () -> loft.gust(MOST_FORCE));
        Due.is(5181347150259L + 4, "the lowest, with what is left over", () -> loft.pulled(0));
        Due.is(MOST_FORCE * 93 / 772, "the highest", () -> loft.pulled(7));
    }
}
