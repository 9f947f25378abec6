/** Promises 26 to 31, and "Canopies" from where they are packed: seals, uses, wetness, finds, numbers, lives. */
public final class SealsEdgesTest {
    private static final String[] ONE = {"lot 1 1 1", "canopy 0", "part 0 0"};
    private static final String[] TWO_LOTS = {"lot 1 1 1", "lot 1 1 1", "canopy 0", "canopy 1", "canopy 0", "canopy 1",
        "canopy 0", "canopy 1", "part 0 0", "part 1 0", "part 2 0", "part 3 0", "part 4 0", "part 5 0"};

    public static void main(String[] args) {
        sealCanopyAndRigger();
        sealedToday();
        ifItHasNoSeal();
        ifItsLotIsNotHeld();
        ifItDoesNotJam();
        ifItHasAPart();
        ifItWasNotTooWet();
        sealOrder();
        howOftenSealed();
        useCanopy();
        usedOnce();
        sealOf180Days();
        ageOfTheLatestSeal();
        olderSealStaysOne();
        usesAtTheLastDay();
        wetCanopy();
        wetWhileSealed();
        sinceItWasAired();
        findLot();
        soAlready();
        sealsTakenAway();
        wholeLotHeld();
        olderSealsTakenAway();
        numbersOfACanopy();
        numbersOrder();
        numbersToldAnew();
        refusedIsNotLogged();
        Due.end();
    }

    private static Run numbers(Run run, int canopy, int lot, int rigger, int day, int sealed, int used, int wet) {
        return run.due(lot, "ofCanopy " + canopy + " 0").due(rigger, "ofCanopy " + canopy + " 1")
                .due(day, "ofCanopy " + canopy + " 2").due(sealed, "ofCanopy " + canopy + " 3")
                .due(used, "ofCanopy " + canopy + " 4").due(wet, "ofCanopy " + canopy + " 5")
                .due(sealed, "lifeAnew " + canopy + " 3").due(used, "lifeAnew " + canopy + " 4")
                .due(wet, "lifeAnew " + canopy + " 5");
    }

    private static void sealCanopyAndRigger() {
        new Run("seal: no such canopy").tell(ONE).tell("canopy 0", "part 1 0").outside(Run.INDEX, "seal # 0", 0, 1)
                .due(1, "seal 1 0").due(1, "seal 0 0").refused(Run.INDEX, "seal 2 0", "seal 5 0", "seal 6 0");
        new Run("rigger: 0 to 4").tell(ONE).outside(Run.INDEX, "seal 0 #", 0, 4).due(1, "seal 0 0").due(0, "use 0")
                .due(2, "seal 0 4").due(4, "ofCanopy 0 1").outside(Run.INDEX, "seal 0 #", 0, 4).due(4, "use 0");
        new Run("no such canopy nor rigger").tell(ONE).refused(Run.INDEX, "seal 1 5", "seal -1 -1", "seal 1 -1");
        for (int rigger = 0; rigger <= 4; rigger++) {
            Run run = new Run("sealed by a rigger, each").tell(ONE).due(1, "seal 0 " + rigger);
            numbers(run, 0, 0, rigger, 0, 1, 0, 0).due(rigger, "use 0");
        }
    }

    private static void sealedToday() {
        Run run = new Run("sealed today").tell(ONE).tell("pass 7").due(1, "seal 0 2").due(7, "ofCanopy 0 2")
                .due(8, "pass 1").due(7, "ofCanopy 0 2").due(2, "use 0").due(-1, "ofCanopy 0 2").due(2, "seal 0 1");
        numbers(run, 0, 0, 1, 8, 2, 1, 0);
    }

    private static void ifItHasNoSeal() {
        Run run = new Run("if it has no seal").tell(ONE).tell("pass 5").due(1, "seal 0 2").due(6, "pass 1")
                .refused(Run.STATE, "seal 0 2", "seal 0 3", "seal 0 0");
        numbers(run, 0, 0, 2, 5, 1, 0, 0);
    }

    private static void ifItsLotIsNotHeld() {
        new Run("if its lot is not held").tell(TWO_LOTS).due(0, "find 1 true")
                .refused(Run.STATE, "seal 1 0", "seal 3 0",
                "seal 5 0").due(1, "seal 0 0").due(0, "find 1 false").due(1, "seal 1 0").due(1, "seal 5 0");
    }

    private static void ifItDoesNotJam() {
        new Run("if it does not jam").tell("lot 1 1 1", "canopy 0", "part 0 0", "part 0 2").refused(Run.STATE,
                "seal 0 0").tell("canopy 0", "part 1 0", "part 1 1").due(1, "seal 1 0");
        new Run("it jams by a part that came behind a use").tell(ONE).due(1, "seal 0 0").due(0, "use 0")
                .tell("part 0 2")
                .refused(Run.STATE, "seal 0 0");
    }

    private static void ifItHasAPart() {
        new Run("if it has a part").tell("lot 1 1 1", "canopy 0").refused(Run.STATE, "seal 0 0", "seal 0 4")
                .tell("part 0 0").due(1, "seal 0 4");
    }

    private static void ifItWasNotTooWet() {
        for (int times = 0; times <= 5; times++) {
            Run run = new Run("if it was not wet 3 times or more").tell(ONE);
            for (int time = 1; time <= times; time++) {
                run.due(time, "wet 0 false");
            }
            if (times < 3) {
                run.due(1, "seal 0 0");
            } else {
                run.refused(Run.STATE, "seal 0 0").due(0, "wet 0 true").due(1, "seal 0 0");
            }
        }
        new Run("since it was aired, not since it was sealed or used").tell(ONE).due(1, "wet 0 false")
                .due(2, "wet 0 false").due(1, "seal 0 0").due(0, "use 0").due(3, "wet 0 false")
                .refused(Run.STATE, "seal 0 0").due(0, "wet 0 true").due(1, "wet 0 false").due(2, "wet 0 false")
                .due(2, "seal 0 0").due(1, "find 0 true").due(0, "find 0 false").due(3, "wet 0 false")
                .refused(Run.STATE, "seal 0 0");
        new Run("each canopy is wet by itself").tell(ONE).tell("canopy 0", "part 1 0", "wet 1 false", "wet 1 false",
                "wet 1 false").due(1, "seal 0 0").refused(Run.STATE, "seal 1 0").due(0, "wet 1 true")
                .due(1, "seal 1 0");
        new Run("days do not dry it").tell(ONE).tell("wet 0 false", "wet 0 false", "wet 0 false", "pass 400")
                .refused(Run.STATE, "seal 0 0").due(4, "wet 0 false");
    }

    private static void sealOrder() {
        new Run("seal: no such canopy or rigger comes first").tell(ONE).tell("seal 0 1", "canopy 0")
                .refused(Run.INDEX, "seal 0 5", "seal 0 -1", "seal 1 5", "seal 1 -1", "seal 2 0", "seal 2 5")
                .refused(Run.STATE, "seal 0 4", "seal 1 4");
        new Run("seal: no such rigger comes ahead of a held lot").tell(ONE).tell("find 0 true").refused(Run.INDEX,
                "seal 0 5", "seal 0 -1").refused(Run.STATE, "seal 0 0");
        new Run("seal: no such rigger comes ahead of a jam and of wetness").tell("lot 1 1 1", "canopy 0", "part 0 1",
                "wet 0 false", "wet 0 false", "wet 0 false").refused(Run.INDEX, "seal 0 5")
                .refused(Run.STATE, "seal 0 4");
    }

    private static void howOftenSealed() {
        Run run = new Run("seal: how often it was sealed").tell(ONE).tell("canopy 0", "part 1 0");
        for (int times = 1; times <= 140; times++) {
            run.due(times, "seal 0 " + times % 5).due(times % 5, "use 0");
        }
        run.due(1, "seal 1 0");
        numbers(numbers(run, 0, 0, -1, -1, 140, 140, 0), 1, 0, 0, 0, 1, 0, 0);
        new Run("also where a find took the seal").tell(ONE).due(1, "seal 0 0").due(1, "find 0 true")
                .due(0, "find 0 false").due(2, "seal 0 0").due(1, "find 0 true").due(0, "find 0 false")
                .due(3, "seal 0 0");
    }

    private static void useCanopy() {
        new Run("use: no such canopy").tell(ONE).tell("canopy 0", "part 1 0", "seal 0 0", "seal 1 1")
                .outside(Run.INDEX, "use #", 0, 1).due(1, "use 1").due(0, "use 0").refused(Run.INDEX, "use 2", "use 5");
        new Run("use: it has no seal").tell(ONE).refused(Run.STATE, "use 0").tell("canopy 0")
                .refused(Run.STATE, "use 1");
    }

    private static void usedOnce() {
        Run run = new Run("a use takes the seal away").tell(ONE).tell("canopy 0", "part 1 0").due(1, "seal 0 3")
                .due(1, "seal 1 2").due(3, "use 0").refused(Run.STATE, "use 0");
        numbers(numbers(run, 0, 0, -1, -1, 1, 1, 0), 1, 0, 2, 0, 1, 0, 0).due(2, "seal 0 4").due(4, "use 0");
    }

    private static void sealOf180Days() {
        for (int age = 179; age <= 182; age++) {
            for (int day = 0; day <= 1; day++) {
                Run run = new Run("its seal is not older than 180 days: " + age).tell(ONE);
                run.tell(day == 0 ? "opens 0" : "pass 30").due(1, "seal 0 2").due(30 * day + age, "pass " + age);
                if (age <= 180) {
                    run.due(2, "use 0");
                } else {
                    run.refused(Run.STATE, "use 0");
                    numbers(run, 0, 0, 2, 30 * day, 1, 0, 0);
                }
            }
        }
        new Run("day by day").tell(ONE).tell("seal 0 0", "pass 100", "pass 79", "pass 1", "use 0", "seal 0 0",
                "pass 180", "pass 1").refused(Run.STATE, "use 0");
    }

    private static void ageOfTheLatestSeal() {
        new Run("the age of its own, latest seal").tell(ONE)
                .tell("canopy 0", "part 1 0", "seal 0 1", "pass 100", "use 0",
                "seal 0 2", "seal 1 3", "pass 150").due(2, "use 0").tell("pass 30").due(3, "use 1");
    }

    private static void olderSealStaysOne() {
        Run run = new Run("a seal that is older stays one").tell(ONE).tell("wet 0 false", "seal 0 2", "pass 181")
                .refused(Run.STATE, "use 0", "seal 0 3", "part 0 0", "wet 0 false", "wet 0 true").tell("pass 400")
                .refused(Run.STATE, "use 0", "seal 0 3", "part 0 0", "wet 0 false", "wet 0 true");
        numbers(run, 0, 0, 2, 0, 1, 0, 1);
        run.due(1, "find 0 true");
        numbers(run, 0, 0, -1, -1, 1, 0, 1).due(0, "find 0 false").due(2, "wet 0 false").due(1, "part 0 0")
                .due(2, "seal 0 3").due(581, "ofCanopy 0 2").due(3, "use 0");
    }

    private static void usesAtTheLastDay() {
        int[] passedBehind = {0, 1, 180, 181};
        for (int behind : passedBehind) {
            Run run = new Run("sealed " + behind + " days ahead of the last day").tell(ONE);
            int day = 100000 - behind;
            for (int passed = 400; passed <= day; passed += 400) {
                run.due(passed, "pass 400");
            }
            run.tell(day % 400 == 0 ? "opens 0" : "pass " + day % 400).due(1, "seal 0 4").due(day, "ofCanopy 0 2");
            run.tell(behind == 0 ? "opens 0" : "pass " + behind).refused(Run.STATE, "pass 1");
            if (behind <= 180) {
                run.due(4, "use 0");
            } else {
                run.refused(Run.STATE, "use 0");
            }
        }
    }

    private static void wetCanopy() {
        for (String aired : new String[] {"false", "true"}) {
            new Run("wet: no such canopy").tell(ONE).tell("canopy 0").outside(Run.INDEX, "wet # " + aired, 0, 1)
                    .due(1, "wet 1 false").due(1, "wet 0 false").refused(Run.INDEX, "wet 2 " + aired, "wet 5 " + aired);
        }
        new Run("wet: a canopy without parts").tell("lot 1 1 1", "canopy 0").due(0, "wet 0 true").due(1, "wet 0 false")
                .due(1, "ofCanopy 0 5");
    }

    private static void wetWhileSealed() {
        Run run = new Run("wet: it is sealed").tell(ONE).tell("wet 0 false", "seal 0 0")
                .refused(Run.STATE, "wet 0 false",
                "wet 0 true");
        numbers(run, 0, 0, 0, 0, 1, 0, 1).due(0, "use 0").due(2, "wet 0 false").due(0, "wet 0 true");
    }

    private static void sinceItWasAired() {
        Run run = new Run("how often it was wet since it was aired, 0 if it is").tell(ONE).due(0, "wet 0 true")
                .due(1, "wet 0 false").due(2, "wet 0 false").due(0, "wet 0 true").due(0, "wet 0 true")
                .due(1, "wet 0 false");
        numbers(run, 0, 0, -1, -1, 0, 0, 3);
        for (int times = 2; times <= 300; times++) {
            run.due(times, "wet 0 false");
        }
        numbers(run, 0, 0, -1, -1, 0, 0, 302).refused(Run.STATE, "seal 0 0").due(0, "wet 0 true").due(1, "seal 0 0");
    }

    private static void findLot() {
        for (String held : new String[] {"true", "false"}) {
            new Run("find: no such lot").tell("lot 1 1 1", "lot 1 1 1", "find 1 true")
                    .outside(Run.INDEX, "find # " + held, 0, 1).due(0, "find 0 true").due(0, "find 1 false")
                    .refused(Run.INDEX, "find 2 " + held, "find 5 " + held);
        }
        Run last = new Run("find: the last of six lots");
        for (int lot = 0; lot < 6; lot++) {
            last.tell("lot 1 1 1");
        }
        last.due(0, "find 5 true").outside(Run.INDEX, "find # true", 0, 5).outside(Run.INDEX, "find # false", 0, 5);
    }

    private static void soAlready() {
        new Run("find: it is so already").tell("lot 1 1 1", "lot 1 1 1").refused(Run.STATE, "find 0 false",
                "find 1 false").due(0, "find 0 true").refused(Run.STATE, "find 0 true", "find 1 false")
                .due(0, "find 0 false").refused(Run.STATE, "find 0 false").due(0, "find 0 true");
        new Run("find: held already takes no seals").tell(TWO_LOTS).tell("seal 0 0", "seal 1 1").due(1, "find 0 true")
                .refused(Run.STATE, "find 0 true").due(1, "ofCanopy 1 1").refused(Run.STATE, "find 1 false")
                .due(1, "ofCanopy 1 1");
    }

    private static void sealsTakenAway() {
        for (int sealed = 0; sealed <= 6; sealed++) {
            Run run = new Run("how many seals are taken away, of " + sealed).tell("lot 1 1 1");
            for (int canopy = 0; canopy < 6; canopy++) {
                run.tell("canopy 0", "part " + canopy + " 0");
            }
            for (int canopy = 0; canopy < sealed; canopy++) {
                run.tell("seal " + (5 - canopy) + " " + canopy % 5);
            }
            run.due(sealed, "find 0 true");
            for (int canopy = 0; canopy < 6; canopy++) {
                numbers(run, canopy, 0, -1, -1, canopy >= 6 - sealed ? 1 : 0, 0, 0);
                run.refused(Run.STATE, "use " + canopy, "seal " + canopy + " 0");
            }
            run.due(0, "find 0 false").due(0, "find 0 true");
        }
        new Run("a lot without canopies").tell(ONE).tell("lot 1 1 1", "seal 0 0").due(0, "find 1 true").due(0, "use 0");
    }

    private static void wholeLotHeld() {
        Run run = new Run("the seals of all canopies of the lot, and of no other").tell(TWO_LOTS);
        for (int canopy = 0; canopy < 6; canopy++) {
            run.tell("seal " + canopy + " " + canopy % 5);
        }
        run.due(2, "use 2").due(2, "find 0 true");
        numbers(run, 0, 0, -1, -1, 1, 0, 0);
        numbers(run, 1, 1, 1, 0, 1, 0, 0);
        numbers(run, 2, 0, -1, -1, 1, 1, 0);
        numbers(run, 3, 1, 3, 0, 1, 0, 0);
        numbers(run, 4, 0, -1, -1, 1, 0, 0);
        numbers(run, 5, 1, 0, 0, 1, 0, 0);
        run.refused(Run.STATE, "use 0", "use 4", "seal 0 0").due(3, "use 3").due(2, "find 1 true")
                .refused(Run.STATE, "use 1", "seal 1 0").due(0, "find 0 false").refused(Run.STATE, "use 0", "use 4")
                .due(2, "seal 0 0").refused(Run.STATE, "seal 1 0");
    }

    private static void olderSealsTakenAway() {
        new Run("older seals are taken away too, and counted").tell(ONE).tell("canopy 0", "part 1 0", "seal 0 1",
                "pass 181", "seal 1 1").refused(Run.STATE, "use 0").due(2, "find 0 true").due(-1, "ofCanopy 0 1")
                .due(-1, "ofCanopy 0 2").due(-1, "ofCanopy 1 1");
    }

    private static void numbersOfACanopy() {
        for (String name : new String[] {"ofCanopy", "lifeAnew"}) {
            int least = name.equals("ofCanopy") ? 0 : 3;
            new Run(name + ": no such canopy").tell(ONE).tell("canopy 0").outside(Run.INDEX, name + " # 3", 0, 1)
                    .refused(Run.INDEX, name + " 2 5", name + " 5 5", name + " 6 3");
            new Run(name + ": what, out of range").tell(ONE).outside(Run.ARGUMENT, name + " 0 #", least, 5)
                    .due(0, name + " 0 " + (least == 0 ? 0 : 3)).due(0, name + " 0 5");
        }
        new Run("lifeAnew: 0 to 2 are of the canopy alone").tell(ONE).tell("seal 0 0").refused(Run.ARGUMENT,
                "lifeAnew 0 0", "lifeAnew 0 1", "lifeAnew 0 2").due(0, "ofCanopy 0 0").due(0, "ofCanopy 0 1")
                .due(0, "ofCanopy 0 2");
        Run run = new Run("each number of a canopy").tell(TWO_LOTS).tell("pass 9", "wet 3 false", "wet 3 true",
                "wet 3 false", "seal 3 4", "use 3", "seal 3 0", "use 3", "wet 3 false", "seal 3 2", "use 3", "seal 3 3",
                "wet 4 false");
        numbers(run, 3, 1, 3, 9, 4, 3, 3);
        numbers(run, 4, 0, -1, -1, 0, 0, 1);
        numbers(run, 5, 1, -1, -1, 0, 0, 0);
    }

    private static void numbersOrder() {
        new Run("no such canopy comes ahead of what").tell(ONE).refused(Run.INDEX, "ofCanopy 1 6", "ofCanopy 1 -1",
                "ofCanopy -1 6", "lifeAnew 1 6", "lifeAnew 1 2", "lifeAnew -1 2", "lifeAnew -1 -1");
    }

    private static void numbersToldAnew() {
        Run run = new Run("the same, told from the log, of six canopies").tell(TWO_LOTS);
        int[] sealed = new int[6];
        int[] used = new int[6];
        int[] wet = new int[6];
        for (int turn = 0; turn < 60; turn++) {
            int canopy = turn * turn % 7 % 6;
            run.due(++sealed[canopy], "seal " + canopy + " 0");
            if (turn % 3 == 0) {
                run.tell("find " + canopy % 2 + " true", "find " + canopy % 2 + " false");
            } else {
                run.due(0, "use " + canopy);
                used[canopy]++;
            }
            if (turn % 2 == 0) {
                run.tell("wet " + canopy + " false", "wet " + canopy + " true");
                wet[canopy]++;
            }
        }
        for (int canopy = 0; canopy < 6; canopy++) {
            numbers(run, canopy, canopy % 2, -1, -1, sealed[canopy], used[canopy], wet[canopy]);
        }
    }

    private static void refusedIsNotLogged() {
        Run run = new Run("what was refused is not in the log").tell(ONE).refused(Run.STATE, "use 0")
                .tell("wet 0 false",
                "wet 0 false", "wet 0 false").refused(Run.STATE, "seal 0 0", "use 0");
        numbers(run, 0, 0, -1, -1, 0, 0, 3).tell("wet 0 true", "seal 0 0").refused(Run.STATE, "wet 0 false",
                "wet 0 true", "seal 0 0").refused(Run.INDEX, "seal 0 5", "use 1");
        numbers(run, 0, 0, 0, 0, 1, 0, 3).tell("pass 181").refused(Run.STATE, "use 0");
        numbers(run, 0, 0, 0, 0, 1, 0, 3);
    }
}
