/** Promises 22 to 31: days, canopies and their parts, seals, uses, wetness, finds and lives told anew. */
public final class CanopiesTest {
    public static void main(String[] args) {
        days();
        canopies();
        parts();
        openings();
        seals();
        uses();
        oldSeals();
        wetness();
        finds();
        numbers();
        lives();
        Due.end();
    }

    private static BroadseamLoft loftOfCanopies(int lots, int canopies) {
        BroadseamLoft loft = new BroadseamLoft();
        for (int lot = 0; lot < lots; lot++) {
            loft.lot(1, 1, 1);
        }
        for (int canopy = 0; canopy < canopies; canopy++) {
            loft.canopy(canopy % lots);
            loft.part(canopy, 0);
        }
        return loft;
    }

    private static void of(BroadseamLoft loft, int canopy, int... want) {
        for (int what = 0; what < want.length; what++) {
            int asked = what;
            Due.is(want[what], "ofCanopy " + canopy + " " + what, () -> loft.ofCanopy(canopy, asked));
            if (what >= 3) {
                Due.is(want[what], "lifeAnew " + canopy + " " + what, () -> loft.lifeAnew(canopy, asked));
            }
        }
    }

    private static void days() {
        BroadseamLoft loft = new BroadseamLoft();
        Due.argument("no day", () -> loft.pass(0));
        Due.argument("days back", () -> loft.pass(-1));
        Due.argument("401 days", () -> loft.pass(401));
        Due.is(1, "a day", () -> loft.pass(1));
        for (int day = 401; day <= 99601; day += 400) {
            Due.is(day, "day " + day, () -> loft.pass(400));
        }
        Due.state("above the last day", () -> loft.pass(400));
        Due.argument("no days, by then", () -> loft.pass(401));
        Due.is(100000, "the last day", () -> loft.pass(399));
        Due.state("a day more", () -> loft.pass(1));
    }

    private static void canopies() {
        BroadseamLoft loft = new BroadseamLoft();
        Due.index("no lot", () -> loft.canopy(0));
        loft.lot(1, 1, 1);
        loft.lot(1, 1, 1);
        Due.index("lot -1", () -> loft.canopy(-1));
        Due.index("lot 2", () -> loft.canopy(2));
        for (int canopy = 0; canopy < 6; canopy++) {
            int lot = canopy % 2;
            Due.is(canopy, "canopy " + canopy, () -> loft.canopy(lot));
        }
        Due.state("a seventh", () -> loft.canopy(0));
        Due.index("a seventh of no lot", () -> loft.canopy(2));
        Due.index("which is not there", () -> loft.opens(6));
        of(loft, 5, 1, -1, -1, 0, 0, 0);
        Due.is(0, "it has no parts", () -> loft.opens(5));
    }

    private static void parts() {
        BroadseamLoft loft = new BroadseamLoft();
        loft.lot(1, 1, 1);
        Due.index("no canopy", () -> loft.part(0, 300));
        loft.canopy(0);
        Due.index("canopy -1", () -> loft.part(-1, 0));
        Due.argument("held -1", () -> loft.part(0, -1));
        Due.argument("held 256", () -> loft.part(0, 256));
        Due.is(0, "none came of these", () -> loft.opens(0));
        for (int part = 0; part < 8; part++) {
            int held = 255 >> (8 - part);
            Due.is(part, "part " + part, () -> loft.part(0, held));
        }
        Due.state("a ninth", () -> loft.part(0, 0));
        Due.argument("a wrong ninth", () -> loft.part(0, 256));
        Due.is(8, "each held by all ahead of it", () -> loft.opens(0));
        loft.canopy(0);
        loft.part(1, 0);
        loft.seal(1, 0);
        Due.state("sealed", () -> loft.part(1, 0));
        Due.argument("wrong and sealed", () -> loft.part(1, 256));
        loft.use(1);
        Due.is(1, "used, it takes parts again", () -> loft.part(1, 255 - 2));
    }

    private static void openings() {
        BroadseamLoft loft = new BroadseamLoft();
        loft.lot(1, 1, 1);
        loft.canopy(0);
        Due.index("canopy 1", () -> loft.opens(1));
        Due.index("canopy -1", () -> loft.opens(-1));
        loft.part(0, 254);
        Due.is(1, "held by such as are not there", () -> loft.opens(0));
        loft.part(0, 0);
        Due.is(2, "until one of them comes", () -> loft.opens(0));
        loft.part(0, 0);
        Due.is(2, "all that can open at once do", () -> loft.opens(0));
        loft.part(0, 1);
        Due.is(-1, "two that hold each other jam", () -> loft.opens(0));
        loft.canopy(0);
        loft.part(1, 1);
        Due.is(-1, "one that holds itself jams", () -> loft.opens(1));
        loft.canopy(0);
        loft.part(2, 128);
        for (int part = 1; part < 7; part++) {
            loft.part(2, 1 << part - 1);
        }
        Due.is(7, "seven in a row", () -> loft.opens(2));
        loft.part(2, 64);
        Due.is(-1, "a ring of eight", () -> loft.opens(2));
    }

    private static void seals() {
        BroadseamLoft loft = loftOfCanopies(1, 2);
        Due.index("canopy 2", () -> loft.seal(2, 0));
        Due.index("canopy -1", () -> loft.seal(-1, 0));
        Due.index("rigger -1", () -> loft.seal(0, -1));
        Due.index("rigger 5", () -> loft.seal(0, 5));
        loft.pass(9);
        Due.is(1, "sealed", () -> loft.seal(0, 4));
        of(loft, 0, 0, 4, 9, 1, 0, 0);
        of(loft, 1, 0, -1, -1, 0, 0, 0);
        Due.state("sealed already", () -> loft.seal(0, 3));
        Due.index("no rigger, sealed already", () -> loft.seal(0, 5));
        of(loft, 0, 0, 4, 9, 1, 0, 0);
        loft.canopy(0);
        Due.state("without parts", () -> loft.seal(2, 0));
        loft.part(2, 1);
        Due.state("it jams", () -> loft.seal(2, 0));
        of(loft, 2, 0, -1, -1, 0, 0, 0);
        loft.find(0, true);
        Due.state("its lot is held", () -> loft.seal(1, 0));
        loft.find(0, false);
        Due.is(2, "a second time", () -> loft.seal(0, 0));
        of(loft, 0, 0, 0, 9, 2, 0, 0);
    }

    private static void uses() {
        BroadseamLoft loft = loftOfCanopies(1, 2);
        Due.index("canopy 2", () -> loft.use(2));
        Due.index("canopy -1", () -> loft.use(-1));
        Due.state("no seal", () -> loft.use(0));
        loft.seal(0, 3);
        Due.is(3, "on the same day", () -> loft.use(0));
        of(loft, 0, 0, -1, -1, 1, 1, 0);
        Due.state("the seal is gone", () -> loft.use(0));
        loft.seal(0, 0);
        loft.seal(1, 1);
        loft.find(0, true);
        Due.state("a find took it", () -> loft.use(0));
        loft.find(0, false);
        Due.state("for good", () -> loft.use(0));
        of(loft, 0, 0, -1, -1, 2, 1, 0);
        of(loft, 1, 0, -1, -1, 1, 0, 0);
    }

    private static void oldSeals() {
        BroadseamLoft loft = loftOfCanopies(2, 2);
        loft.pass(400);
        loft.seal(0, 2);
        loft.seal(1, 1);
        loft.pass(180);
        Due.is(2, "180 days old", () -> loft.use(0));
        loft.pass(1);
        Due.state("181 days old", () -> loft.use(1));
        of(loft, 1, 1, 1, 400, 1, 0, 0);
        Due.state("an old seal stays one: no other", () -> loft.seal(1, 2));
        Due.state("an old seal stays one: no part", () -> loft.part(1, 0));
        Due.state("an old seal stays one: no wetness", () -> loft.wet(1, false));
        Due.state("an old seal stays one: no airing", () -> loft.wet(1, true));
        Due.is(1, "a find takes it", () -> loft.find(1, true));
        loft.find(1, false);
        Due.is(2, "then another", () -> loft.seal(1, 0));
    }

    private static void wetness() {
        BroadseamLoft loft = loftOfCanopies(1, 2);
        Due.index("canopy 2", () -> loft.wet(2, false));
        Due.index("canopy -1", () -> loft.wet(-1, true));
        Due.is(0, "aired, never wet", () -> loft.wet(0, true));
        Due.is(1, "wet", () -> loft.wet(0, false));
        Due.is(2, "wet again", () -> loft.wet(0, false));
        Due.is(1, "twice is not too wet", () -> loft.seal(0, 0));
        Due.state("sealed", () -> loft.wet(0, false));
        Due.state("sealed, aired", () -> loft.wet(0, true));
        Due.is(0, "used", () -> loft.use(0));
        Due.is(3, "a use does not air it", () -> loft.wet(0, false));
        Due.state("thrice is too wet", () -> loft.seal(0, 0));
        Due.is(4, "wetter", () -> loft.wet(0, false));
        Due.state("still too wet", () -> loft.seal(0, 0));
        Due.is(0, "aired", () -> loft.wet(0, true));
        Due.is(2, "sealed again", () -> loft.seal(0, 0));
        of(loft, 0, 0, 0, 0, 2, 1, 4);
        of(loft, 1, 0, -1, -1, 0, 0, 0);
    }

    private static void finds() {
        BroadseamLoft loft = loftOfCanopies(2, 6);
        Due.index("lot 2", () -> loft.find(2, true));
        Due.index("lot -1", () -> loft.find(-1, false));
        Due.state("not held already", () -> loft.find(0, false));
        for (int canopy = 0; canopy < 5; canopy++) {
            loft.seal(canopy, canopy);
        }
        loft.use(2);
        Due.is(2, "the seals of the whole lot: 0 and 4", () -> loft.find(0, true));
        Due.state("held already", () -> loft.find(0, true));
        of(loft, 0, 0, -1, -1, 1, 0, 0);
        of(loft, 1, 1, 1, 0, 1, 0, 0);
        of(loft, 3, 1, 3, 0, 1, 0, 0);
        of(loft, 4, 0, -1, -1, 1, 0, 0);
        Due.state("held: no seal", () -> loft.seal(0, 0));
        Due.is(1, "the other lot goes on", () -> loft.use(1));
        Due.is(1, "wet all the same", () -> loft.wet(0, false));
        Due.is(1, "parts all the same", () -> loft.part(0, 0));
        Due.is(0, "cleared", () -> loft.find(0, false));
        Due.is(2, "sealed again", () -> loft.seal(0, 0));
        Due.is(1, "lot 1 is held: 3", () -> loft.find(1, true));
        Due.state("and 5 is not sealed", () -> loft.seal(5, 0));
    }

    private static void numbers() {
        BroadseamLoft loft = loftOfCanopies(2, 2);
        Due.index("ofCanopy 2", () -> loft.ofCanopy(2, 0));
        Due.index("ofCanopy 2, wrong", () -> loft.ofCanopy(2, 9));
        Due.index("ofCanopy -1", () -> loft.ofCanopy(-1, 0));
        Due.argument("ofCanopy what -1", () -> loft.ofCanopy(0, -1));
        Due.argument("ofCanopy what 6", () -> loft.ofCanopy(0, 6));
        Due.index("lifeAnew 2", () -> loft.lifeAnew(2, 3));
        Due.index("lifeAnew 2, wrong", () -> loft.lifeAnew(2, 2));
        Due.index("lifeAnew -1", () -> loft.lifeAnew(-1, 3));
        Due.argument("lifeAnew what 2", () -> loft.lifeAnew(0, 2));
        Due.argument("lifeAnew what 6", () -> loft.lifeAnew(0, 6));
        Due.argument("lifeAnew what -1", () -> loft.lifeAnew(0, -1));
        of(loft, 0, 0, -1, -1, 0, 0, 0);
        of(loft, 1, 1, -1, -1, 0, 0, 0);
    }

    private static void lives() {
        BroadseamLoft loft = loftOfCanopies(1, 6);
        for (int round = 1; round <= 100; round++) {
            loft.seal(5, round % 5);
            loft.use(5);
            loft.wet(4, false);
        }
        loft.wet(4, true);
        for (int more = 1; more <= 150; more++) {
            loft.wet(3, false);
        }
        loft.seal(0, 1);
        of(loft, 0, 0, 1, 0, 1, 0, 0);
        of(loft, 1, 0, -1, -1, 0, 0, 0);
        of(loft, 3, 0, -1, -1, 0, 0, 150);
        of(loft, 4, 0, -1, -1, 0, 0, 100);
        of(loft, 5, 0, -1, -1, 100, 100, 0);
    }
}
