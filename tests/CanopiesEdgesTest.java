/** Promises 22 to 25, and "Canopies" till they are packed: days, canopies, parts, rounds. */
public final class CanopiesEdgesTest {
    private static final String[] SIX_CANOPIES =
            {"lot 1 1 1", "canopy 0", "canopy 0", "canopy 0", "canopy 0", "canopy 0", "canopy 0"};

    public static void main(String[] args) {
        daysRange();
        lastDay();
        passOrder();
        canopyLot();
        sixCanopies();
        canopyOrder();
        canopyOfAHeldLot();
        partCanopy();
        heldRange();
        eightParts();
        sealedTakesNoPart();
        partOrder();
        opensCanopy();
        withoutParts();
        heldByWhatIsNotThere();
        heldByWhatComesLater();
        inRounds();
        jams();
        roundsOfEachChain();
        Due.end();
    }

    private static Run toDay(Run run, int day) {
        for (int passed = 400; passed <= day; passed += 400) {
            run.due(passed, "pass 400");
        }
        return day % 400 == 0 ? run : run.due(day, "pass " + day % 400);
    }

    private static void daysRange() {
        new Run("days: 1 to 400").outside(Run.ARGUMENT, "pass #", 1, 400).due(1, "pass 1").due(401, "pass 400")
                .outside(Run.ARGUMENT, "pass #", 1, 400).due(402, "pass 1");
    }

    private static void lastDay() {
        toDay(new Run("the day 100000, by 400"), 100000).refused(Run.STATE, "pass 1", "pass 2", "pass 400");
        toDay(new Run("the day 100000, by 1"), 99999).refused(Run.STATE, "pass 2", "pass 400").due(100000, "pass 1")
                .refused(Run.STATE, "pass 1");
        toDay(new Run("the day 100000, by 399"), 99601).refused(Run.STATE, "pass 400").due(100000, "pass 399")
                .refused(Run.STATE, "pass 1");
    }

    private static void passOrder() {
        toDay(new Run("out of range comes ahead of the last day"), 100000).outside(Run.ARGUMENT, "pass #", 1, 400)
                .refused(Run.STATE, "pass 1");
        toDay(new Run("401 days are out of range, where they would be above it too"), 99700)
                .refused(Run.ARGUMENT, "pass 401", "pass 0").refused(Run.STATE, "pass 301").due(100000, "pass 300");
    }

    private static void canopyLot() {
        new Run("canopy: no such lot").tell("lot 1 1 1", "lot 1 1 1").outside(Run.INDEX, "canopy #", 0, 1)
                .due(0, "canopy 1").due(1, "canopy 0").due(1, "ofCanopy 0 0").due(0, "ofCanopy 1 0")
                .refused(Run.INDEX, "canopy 2", "canopy 5", "canopy 6");
        Run last = new Run("canopy: the last of six lots");
        for (int lot = 0; lot < 6; lot++) {
            last.tell("lot 1 1 1");
        }
        last.due(0, "canopy 5").due(5, "ofCanopy 0 0").outside(Run.INDEX, "canopy #", 0, 5);
    }

    private static void sixCanopies() {
        Run run = new Run("canopies are numbered from 0, up to 6").tell("lot 1 1 1", "lot 1 1 1");
        for (int canopy = 0; canopy < 6; canopy++) {
            run.refused(Run.INDEX, "opens " + canopy).due(canopy, "canopy " + canopy % 2).due(0, "opens " + canopy)
                    .due(canopy % 2, "ofCanopy " + canopy + " 0");
        }
        run.refused(Run.STATE, "canopy 0", "canopy 1").refused(Run.INDEX, "opens 6", "part 6 0", "seal 6 0", "use 6",
                "wet 6 false", "wet 6 true", "ofCanopy 6 0", "lifeAnew 6 3");
    }

    private static void canopyOrder() {
        new Run("canopy: no such lot comes ahead of 6 canopies").tell(SIX_CANOPIES).outside(Run.INDEX, "canopy #", 0, 0)
                .refused(Run.STATE, "canopy 0");
    }

    private static void canopyOfAHeldLot() {
        new Run("a canopy of a held lot may be begun").tell("lot 1 1 1").due(0, "find 0 true").due(0, "canopy 0")
                .due(0, "part 0 0").due(1, "opens 0").due(1, "wet 0 false").due(0, "wet 0 true")
                .refused(Run.STATE, "seal 0 0", "use 0").due(0, "find 0 false").due(1, "seal 0 0");
    }

    private static void partCanopy() {
        new Run("part: no such canopy").tell("lot 1 1 1", "canopy 0", "canopy 0").outside(Run.INDEX, "part # 0", 0, 1)
                .due(0, "part 1 0").due(1, "part 1 0").due(0, "part 0 0").due(2, "part 1 0")
                .refused(Run.INDEX, "part 2 0", "part 5 0");
    }

    private static void heldRange() {
        new Run("held: 0 to 255").tell("lot 1 1 1", "canopy 0").outside(Run.ARGUMENT, "part 0 #", 0, 255)
                .refused(Run.ARGUMENT, "part 0 511", "part 0 -256", "part 0 65536").due(0, "part 0 0")
                .due(1, "part 0 254").outside(Run.ARGUMENT, "part 0 #", 0, 255).due(-1, "opens 0");
        new Run("held: 255").tell("lot 1 1 1", "canopy 0").due(0, "part 0 255").due(-1, "opens 0");
    }

    private static void eightParts() {
        Run run = new Run("parts, from 0, up to 8").tell("lot 1 1 1", "canopy 0", "canopy 0");
        for (int part = 0; part < 8; part++) {
            run.due(part, "part 0 0").due(part, "part 1 0");
        }
        run.refused(Run.STATE, "part 0 0", "part 0 255", "part 1 0").due(1, "opens 0").due(1, "seal 0 0")
                .refused(Run.STATE, "part 0 0").due(0, "use 0").refused(Run.STATE, "part 0 0");
    }

    private static void sealedTakesNoPart() {
        Run run = new Run("part: it is sealed").tell("lot 1 1 1", "canopy 0", "canopy 0").due(0, "part 0 0")
                .due(1, "seal 0 3").refused(Run.STATE, "part 0 0", "part 0 1", "part 0 255").due(0, "part 1 0")
                .due(180, "pass 180").refused(Run.STATE, "part 0 0").due(181, "pass 1").refused(Run.STATE, "part 0 0")
                .due(581, "pass 400").refused(Run.STATE, "part 0 0");
        run.due(1, "find 0 true").due(1, "part 0 0");
        new Run("part: used, it is sealed no more").tell("lot 1 1 1", "canopy 0", "part 0 0", "seal 0 0")
                .refused(Run.STATE, "part 0 0").due(0, "use 0").due(1, "part 0 0").due(2, "part 0 1");
    }

    private static void partOrder() {
        new Run("part: no such canopy comes first").tell("lot 1 1 1", "canopy 0").refused(Run.INDEX, "part 1 256",
                "part 1 -1", "part -1 256", "part 6 -1");
        Run full = new Run("part: out of range comes ahead of 8 parts").tell("lot 1 1 1", "canopy 0");
        for (int part = 0; part < 8; part++) {
            full.tell("part 0 0");
        }
        full.refused(Run.ARGUMENT, "part 0 256", "part 0 -1").refused(Run.STATE, "part 0 255")
                .refused(Run.INDEX, "part 1 256");
        new Run("part: out of range comes ahead of the seal").tell("lot 1 1 1", "canopy 0", "part 0 0", "seal 0 0")
                .refused(Run.ARGUMENT, "part 0 256", "part 0 -1").refused(Run.STATE, "part 0 255");
    }

    private static void opensCanopy() {
        new Run("opens: no such canopy").tell("lot 1 1 1", "canopy 0", "canopy 0").outside(Run.INDEX, "opens #", 0, 1)
                .tell("part 1 0").due(0, "opens 0").due(1, "opens 1").refused(Run.INDEX, "opens 5");
        new Run("opens: the last of six").tell(SIX_CANOPIES).tell("part 5 0").due(1, "opens 5")
                .outside(Run.INDEX, "opens #", 0, 5);
    }

    private static void withoutParts() {
        new Run("opens: 0 without parts").tell("lot 1 1 1", "canopy 0").due(0, "opens 0").tell("part 0 0")
                .due(1, "opens 0");
    }

    private static void heldByWhatIsNotThere() {
        for (int holder = 1; holder < 8; holder++) {
            Run run = new Run("one that is not there does not hold it, as long as it is not").tell("lot 1 1 1",
                    "canopy 0").due(0, "part 0 " + (1 << holder)).due(1, "opens 0");
            for (int part = 1; part < 8; part++) {
                run.due(part, "part 0 0").due(part < holder ? 1 : 2, "opens 0");
            }
        }
    }

    private static void heldByWhatComesLater() {
        new Run("also such as come later").tell("lot 1 1 1", "canopy 0").due(0, "part 0 254").due(1, "opens 0")
                .due(1, "part 0 252").due(2, "opens 0").due(2, "part 0 248").due(3, "opens 0").due(3, "part 0 240")
                .due(4, "opens 0").due(4, "part 0 224").due(5, "opens 0").due(5, "part 0 192").due(6, "opens 0")
                .due(6, "part 0 128").due(7, "opens 0").due(7, "part 0 0").due(8, "opens 0");
        new Run("one that comes later jams it").tell("lot 1 1 1", "canopy 0").due(0, "part 0 2").due(1, "opens 0")
                .due(1, "part 0 1").due(-1, "opens 0").refused(Run.STATE, "seal 0 0");
    }

    private static void inRounds() {
        new Run("none that holds them was still shut ahead of the round").tell("lot 1 1 1", "canopy 0", "part 0 0",
                "part 0 1", "part 0 2", "part 0 4", "part 0 0").due(4, "opens 0");
        new Run("all of those that hold it must be open").tell("lot 1 1 1", "canopy 0", "part 0 0", "part 0 1",
                "part 0 3", "part 0 1").due(3, "opens 0").tell("part 0 9").due(3, "opens 0").tell("part 0 12")
                .due(4, "opens 0");
        new Run("all of a round open together").tell("lot 1 1 1", "canopy 0", "part 0 0", "part 0 0", "part 0 0",
                "part 0 7", "part 0 7", "part 0 7", "part 0 63").due(3, "opens 0");
    }

    private static void jams() {
        for (int part = 0; part < 8; part++) {
            Run run = new Run("a part that holds itself jams, whatever else opens").tell("lot 1 1 1", "canopy 0");
            for (int other = 0; other < 8; other++) {
                run.tell("part 0 " + (other == part ? 1 << part : 0)).due(other < part ? 1 : -1, "opens 0");
            }
            run.refused(Run.STATE, "seal 0 0");
        }
        Run ring = new Run("it jams, if not all open so: a ring of eight").tell("lot 1 1 1", "canopy 0");
        for (int part = 0; part < 8; part++) {
            ring.tell("part 0 " + (1 << (part + 1) % 8)).due(part < 7 ? part + 1 : -1, "opens 0");
        }
        new Run("it jams, behind some rounds").tell("lot 1 1 1", "canopy 0", "part 0 0", "part 0 1", "part 0 2",
                "part 0 20", "part 0 8").due(-1, "opens 0").refused(Run.STATE, "seal 0 0");
    }

    private static void roundsOfEachChain() {
        for (int rounds = 1; rounds <= 8; rounds++) {
            Run run = new Run("a chain of " + rounds).tell("lot 1 1 1", "canopy 0");
            for (int part = 0; part < 8; part++) {
                run.tell("part 0 " + (part == 0 || part >= rounds ? 0 : 1 << part - 1));
            }
            run.due(rounds, "opens 0").due(1, "seal 0 0").due(rounds, "opens 0");
        }
    }
}
