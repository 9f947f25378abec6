/** Promises 15 to 18, and "Pegs": each sentence that names an edge. */
public final class PegsEdgesTest {
    private static final long MOST_HOLD = 4000000000000L;
    private static final long MOST_FORCE = 40000000000000L;

    public static void main(String[] args) {
        holds();
        stiffnesses();
        eightPegs();
        eightEver();
        pegOrder();
        forces();
        pulledPegs();
        whichAreIn();
        sharedByStiffness();
        leftOver();
        lowestThatIsIn();
        moreThanTheHold();
        sharedAnew();
        latestSharing();
        noneIn();
        anewFromGustToGust();
        greatestNumbers();
        Due.end();
    }

    private static Run pulled(Run run, long... forces) {
        for (int peg = 0; peg < forces.length; peg++) {
            run.due(forces[peg], "pulled " + peg);
        }
        return run;
    }

    private static void holds() {
        new Run("hold: 0 to 4000000000000").outsideLong(Run.ARGUMENT, "peg # 5", 0, MOST_HOLD).due(0, "peg 0 5")
                .due(1, "peg 4000000000000 5").outsideLong(Run.ARGUMENT, "peg # 5", 0, MOST_HOLD).due(3, "pegs");
    }

    private static void stiffnesses() {
        new Run("stiffness: 1 to 100").outside(Run.ARGUMENT, "peg 5 #", 1, 100).due(0, "peg 1000 1")
                .due(1, "peg 1000 100").outside(Run.ARGUMENT, "peg 5 #", 1, 100).due(3, "pegs").due(0, "gust 101")
                .due(1, "pulled 0").due(100, "pulled 1");
    }

    private static void eightPegs() {
        Run run = new Run("pegs are numbered from 0, up to 8");
        for (int peg = 0; peg < 8; peg++) {
            run.refused(Run.INDEX, "pulled " + peg).due((1 << peg) - 1, "pegs").due(peg, "peg 100 5")
                    .due(0, "pulled " + peg);
        }
        run.due(255, "pegs").refused(Run.STATE, "peg 100 5", "peg 0 1", "peg 4000000000000 100")
                .refused(Run.INDEX, "pulled 8").due(255, "pegs");
        pulled(run.due(0, "gust 800"), 100, 100, 100, 100, 100, 100, 100, 100);
    }

    private static void eightEver() {
        Run run = new Run("8 ever: pegs that came out count");
        for (int peg = 0; peg < 8; peg++) {
            run.due(peg, "peg 0 1").due(1 << peg, "pegs").due(1, "gust 1").due(0, "pegs");
        }
        run.refused(Run.STATE, "peg 0 1", "peg 100 100").due(0, "gust 1").refused(Run.INDEX, "pulled 8");
        Run some = new Run("8 ever: some are in, some came out");
        for (int peg = 0; peg < 8; peg++) {
            some.tell("peg " + (peg % 2 == 0 ? 0 : 1000) + " 1");
        }
        some.due(4, "gust 8").due(170, "pegs").refused(Run.STATE, "peg 5 5");
    }

    private static void pegOrder() {
        Run run = new Run("out of range comes ahead of 8 pegs");
        for (int peg = 0; peg < 8; peg++) {
            run.tell("peg 5 5");
        }
        run.refused(Run.ARGUMENT, "peg -1 5", "peg 4000000000001 5", "peg 5 0", "peg 5 101", "peg -1 0")
                .refused(Run.STATE, "peg 5 5");
    }

    private static void forces() {
        new Run("force: 0 to 40000000000000").tell("peg 4000000000000 1").due(0, "gust 7")
                .outsideLong(Run.ARGUMENT, "gust #", 0, MOST_FORCE).due(7, "pulled 0").due(0, "gust 0")
                .due(0, "pulled 0")
                .due(1, "gust 40000000000000").due(MOST_FORCE, "pulled 0")
                .outsideLong(Run.ARGUMENT, "gust #", 0, MOST_FORCE);
        new Run("force: out of range without pegs").outsideLong(Run.ARGUMENT, "gust #", 0, MOST_FORCE);
    }

    private static void pulledPegs() {
        new Run("pulled: there was no such peg").tell("peg 9 1", "peg 9 1").outside(Run.INDEX, "pulled #", 0, 1)
                .refused(Run.INDEX, "pulled 7", "pulled 8").due(0, "pulled 0").due(0, "pulled 1");
        new Run("pulled: a peg that came out was there").tell("peg 9 1").due(1, "gust 10").due(10, "pulled 0")
                .due(0, "gust 50").due(10, "pulled 0");
        new Run("pulled: 0 ahead of the first gust").tell("peg 9 1").due(0, "pulled 0").due(0, "gust 9")
                .due(9, "pulled 0").tell("peg 9 1").due(9, "pulled 0").due(0, "pulled 1").due(0, "gust 8")
                .due(4, "pulled 0").due(4, "pulled 1");
    }

    private static void whichAreIn() {
        for (int out = 0; out < 8; out++) {
            Run run = new Run("the sum of 2 to the power of each, without " + out);
            for (int peg = 0; peg < 8; peg++) {
                run.tell("peg " + (peg == out ? 0 : 1000) + " 10");
            }
            run.due(255, "pegs").due(1, "gust 80").due(255 - (1 << out), "pegs");
        }
        for (int left = 0; left < 8; left++) {
            Run run = new Run("the sum of 2 to the power of each, of " + left + " alone");
            for (int peg = 0; peg < 8; peg++) {
                run.tell("peg " + (peg == left ? 1000 : 0) + " 10");
            }
            run.due(7, "gust 80").due(1 << left, "pegs").due(80, "pulled " + left);
        }
    }

    private static void sharedByStiffness() {
        Run run = new Run("the force times its stiffness, divided by those of all, together").tell("peg 1000 1",
                "peg 1000 2", "peg 1000 7");
        pulled(run.due(0, "gust 100"), 10, 20, 70);
        pulled(run.due(0, "gust 0"), 0, 0, 0);
        pulled(run.due(0, "gust 10"), 1, 2, 7);
        Run one = new Run("one peg gets all, however stiff").tell("peg 1000 37");
        pulled(one.due(0, "gust 1000"), 1000);
    }

    private static void leftOver() {
        Run run = new Run("what is left over gets the lowest one").tell("peg 1000 1", "peg 1000 2", "peg 1000 4");
        pulled(run.due(0, "gust 1"), 1, 0, 0);
        pulled(run.due(0, "gust 6"), 2, 1, 3);
        pulled(run.due(0, "gust 7"), 1, 2, 4);
        pulled(run.due(0, "gust 8"), 2, 2, 4);
        pulled(run.due(0, "gust 13"), 3, 3, 7);
        Run weak = new Run("what is left over may take the lowest one out").tell("peg 1 1", "peg 10 1", "peg 10 1");
        pulled(weak.due(0, "gust 3"), 1, 1, 1);
        pulled(weak.due(1, "gust 4"), 2, 2, 2);
        weak.due(6, "pegs");
        Run eight = new Run("up to 7 are left over");
        for (int peg = 0; peg < 8; peg++) {
            eight.tell("peg 1000 1");
        }
        pulled(eight.due(0, "gust 15"), 8, 1, 1, 1, 1, 1, 1, 1);
        pulled(eight.due(0, "gust 7"), 7, 0, 0, 0, 0, 0, 0, 0);
    }

    private static void lowestThatIsIn() {
        Run run = new Run("the lowest one of those that are in").tell("peg 0 1", "peg 1000 1", "peg 1000 1",
                "peg 1000 1");
        pulled(run.due(1, "gust 5"), 2, 3, 1, 1);
        pulled(run.due(0, "gust 8"), 2, 4, 2, 2);
    }

    private static void moreThanTheHold() {
        new Run("just its hold").tell("peg 10 1").due(0, "gust 10").due(1, "pegs").due(10, "pulled 0")
                .due(1, "gust 11").due(0, "pegs").due(11, "pulled 0");
        new Run("a hold of 0").tell("peg 0 1").due(0, "gust 0").due(1, "pegs").due(1, "gust 1").due(0, "pegs");
        new Run("a hold of 0 that gets nothing").tell("peg 5 100", "peg 0 1").due(0, "gust 1").due(3, "pegs")
                .due(0, "gust 0").due(3, "pegs");
        new Run("the greatest hold").tell("peg 4000000000000 1").due(0, "gust 4000000000000").due(1, "pegs")
                .due(1, "gust 4000000000001").due(0, "pegs").due(4000000000001L, "pulled 0");
    }

    private static void sharedAnew() {
        Run run = new Run("shared anew among the others, until none comes out").tell("peg 24 1", "peg 33 1", "peg 49 1",
                "peg 100 1");
        pulled(run.due(3, "gust 100"), 25, 34, 50, 100).due(8, "pegs");
        Run none = new Run("until none is in").tell("peg 24 1", "peg 33 1", "peg 49 1", "peg 99 1");
        pulled(none.due(4, "gust 100"), 25, 34, 50, 100).due(0, "pegs");
        Run atOnce = new Run("all come out at once").tell("peg 24 1", "peg 24 1", "peg 24 1", "peg 24 1");
        pulled(atOnce.due(4, "gust 100"), 25, 25, 25, 25).due(0, "pegs");
        Run two = new Run("two come out at once, then one more").tell("peg 100 2", "peg 19 1", "peg 19 1", "peg 32 1");
        pulled(two.due(3, "gust 100"), 100, 20, 20, 33).due(1, "pegs");
        Run stays = new Run("one that holds first may come out later, one by one");
        long[] got = new long[8];
        for (int peg = 0; peg < 8; peg++) {
            got[7 - peg] = 840 / (peg + 1);
            stays.tell("peg " + (840 / (8 - peg) - (peg == 7 ? 0 : 1)) + " 1");
        }
        pulled(stays.due(7, "gust 840"), got).due(128, "pegs");
    }

    private static void latestSharing() {
        Run run = new Run("the latest sharing in which it was, not the first").tell("peg 10 1", "peg 100 1");
        pulled(run.due(1, "gust 60"), 30, 60).due(2, "pegs");
        pulled(run.due(0, "gust 7"), 30, 7);
        pulled(run.due(1, "gust 101"), 30, 101);
        pulled(run.due(0, "gust 3"), 30, 101);
    }

    private static void noneIn() {
        Run run = new Run("none is in").tell("peg 5 1", "peg 5 1").due(2, "gust 40").due(0, "pegs").due(0, "gust 40")
                .due(0, "gust 0").due(0, "gust 40000000000000").due(0, "pegs");
        pulled(run, 20, 20).due(2, "peg 50 9").due(4, "pegs").due(0, "gust 50");
        pulled(run, 20, 20, 50).due(1, "gust 51").due(0, "pegs");
    }

    private static void anewFromGustToGust() {
        Run run = new Run("a gust leaves no force behind").tell("peg 10 1", "peg 10 1");
        for (int gust = 0; gust < 5; gust++) {
            pulled(run.due(0, "gust 20"), 10, 10).due(3, "pegs");
        }
    }

    private static void greatestNumbers() {
        Run two = new Run("40000000000000 times 100 wraps around nowhere").tell("peg 4000000000000 100",
                "peg 4000000000000 99");
        pulled(two.due(2, "gust 40000000000000"), 20100502512563L, 19899497487437L);
        Run eight = new Run("8 of the greatest");
        for (int peg = 0; peg < 8; peg++) {
            eight.tell("peg 4000000000000 100");
        }
        long eighth = MOST_FORCE / 8;
        pulled(eight.due(8, "gust 40000000000000"), eighth, eighth, eighth, eighth, eighth, eighth, eighth, eighth);
        Run hold = new Run("8 of the greatest hold 32000000000000");
        for (int peg = 0; peg < 8; peg++) {
            hold.tell("peg 4000000000000 100");
        }
        hold.due(0, "gust 32000000000000").due(MOST_HOLD, "pulled 0").due(MOST_HOLD, "pulled 7").due(255, "pegs");
        hold.due(8, "gust 32000000000001").due(MOST_HOLD + 1, "pulled 0").due(4571428571428L + 5, "pulled 1");
    }
}
