/** A loft for cloth that is pulled. README.md says how to use it; the document's promises say what it does. */
public final class BroadseamLoft {
    public static final int NONE = -1;
    public static final int WARP = 0, WEFT = 1, BIAS = 2;
    public static final int FLAT = 0, FELLED = 1, ZIGZAG = 2;

    private static final int MOST_LOTS = 6;
    private static final int MOST_PANELS = 12;
    private static final int MOST_SEAMS = 30;
    private static final int MOST_PEGS = 8;
    private static final int MOST_CANOPIES = 6;
    private static final int MOST_PARTS = 8;
    private static final int MOST_CALLS = 512;

    private static final int MOST_STRENGTH = 2000000000;
    private static final int MOST_HOURS_AT_ONCE = 10000;
    private static final int MOST_HOURS = 1000000;
    private static final int ROLL_WIDTH = 150;
    private static final int MOST_HEIGHT = 10000;
    private static final int MOST_LOAD = 100;
    private static final int MOST_STEPS = 50;
    private static final long MOST_HOLD = 4000000000000L;
    private static final int MOST_STIFFNESS = 100;
    private static final long MOST_FORCE = 40000000000000L;
    private static final int MOST_TRIM = 100;
    private static final int MOST_REEFS = 3;
    private static final int MOST_WIND = 100;
    private static final int MOST_LIMIT = 100000;
    private static final int MOST_DAYS_AT_ONCE = 400;
    private static final int LAST_DAY = 100000;
    private static final int RIGGERS = 5;
    private static final int MOST_HELD = 255;
    private static final int SEAL_DAYS = 180;
    private static final int TOO_WET = 3;

    private static final int OF_LOT = 0, OF_RIGGER = 1, OF_SEAL_DAY = 2;
    private static final int OF_SEALED = 3, OF_USED = 4, OF_WET = 5;

    private final Lot[] lots = new Lot[MOST_LOTS];
    private int lotCount;
    private final Panel[] panels = new Panel[MOST_PANELS];
    private int panelCount;
    private final Seam[] seams = new Seam[MOST_SEAMS];
    private int seamCount;
    private final Net net = new Net();
    private final Peg[] pegs = new Peg[MOST_PEGS];
    private int pegCount;
    private final Sail sail = new Sail();
    private final Canopy[] canopies = new Canopy[MOST_CANOPIES];
    private int canopyCount;
    private final Log log = new Log();
    private int day;

    public BroadseamLoft() {
    }

    private static boolean isOutside(long value, long least, long most) {
        return value < least || value > most;
    }

    // ---- lots, panels

    public int lot(int warp, int weft, int bias) throws IllegalArgumentException, IllegalStateException {
        if (isOutside(warp, 1, MOST_STRENGTH) || isOutside(weft, 1, MOST_STRENGTH)
                || isOutside(bias, 1, MOST_STRENGTH)) {
            throw new IllegalArgumentException("a strength is out of range");
        }
        if (lotCount >= lots.length) {
            throw new IllegalStateException("there are 6 lots");
        }
        lots[lotCount] = new Lot(warp, weft, bias);
        return lotCount++;
    }

    public int sun(int lot, int hours) throws IndexOutOfBoundsException, IllegalArgumentException {
        Lot cloth = lotAt(lot);
        if (cloth == null) {
            throw new IndexOutOfBoundsException("no such lot");
        }
        if (isOutside(hours, 1, MOST_HOURS_AT_ONCE)) {
            throw new IllegalArgumentException("the hours are out of range");
        }
        cloth.hours = Math.min(cloth.hours + hours, MOST_HOURS);
        return cloth.hours;
    }

    public int panel(int lot, int width, int height, int along)
            throws IndexOutOfBoundsException, IllegalArgumentException, IllegalStateException {
        Lot cloth = lotAt(lot);
        if (cloth == null) {
            throw new IndexOutOfBoundsException("no such lot");
        }
        if (isOutside(width, 1, ROLL_WIDTH) || isOutside(height, 1, ROLL_WIDTH) || isOutside(along, WARP, BIAS)
                || along == BIAS && width + height > ROLL_WIDTH) {
            throw new IllegalArgumentException("the panel does not lie on a roll so");
        }
        if (panelCount >= panels.length) {
            throw new IllegalStateException("there are 12 panels");
        }
        panels[panelCount] = new Panel(cloth, width, along);
        cloth.layPanel(width, height, along);
        return panelCount++;
    }

    public long strength(int panel) throws IndexOutOfBoundsException {
        Panel cut = panelAt(panel);
        if (cut == null) {
            throw new IndexOutOfBoundsException("no such panel");
        }
        return cut.strengthNow();
    }

    public int roll(int lot) throws IndexOutOfBoundsException {
        Lot cloth = lotAt(lot);
        if (cloth == null) {
            throw new IndexOutOfBoundsException("no such lot");
        }
        return cloth.rolledLength();
    }

    private Lot lotAt(int number) {
        return isOutside(number, 0, lotCount - 1) ? null : lots[number];
    }

    private Panel panelAt(int number) {
        return isOutside(number, 0, panelCount - 1) ? null : panels[number];
    }

    // ---- seams, loads

    public int seam(int panel, int other, int kind)
            throws IndexOutOfBoundsException, IllegalArgumentException, IllegalStateException {
        Panel one = panelAt(panel);
        Panel another = panelAt(other);
        if (one == null || another == null) {
            throw new IndexOutOfBoundsException("no such panel");
        }
        if (panel == other || isOutside(kind, FLAT, ZIGZAG)) {
            throw new IllegalArgumentException("both panels are one, or the kind is out of range");
        }
        if (seamCount >= seams.length) {
            throw new IllegalStateException("there were 30 seams");
        }
        seams[seamCount] = new Seam(one, another, kind);
        return seamCount++;
    }

    public long rip(int seam) throws IndexOutOfBoundsException {
        Seam sewn = isOutside(seam, 0, seamCount - 1) ? null : seams[seam];
        if (sewn == null) {
            throw new IndexOutOfBoundsException("no such seam");
        }
        seams[seam] = null;
        return sewn.strengthNow();
    }

    public long bears(int panel, int other) throws IndexOutOfBoundsException {
        Panel start = panelAt(panel);
        Panel end = panelAt(other);
        if (start == null || end == null) {
            throw new IndexOutOfBoundsException("no such panel");
        }
        spreadLoadFrom(start);
        return end.borne;
    }

    public long bearsAnew(int panel, int other) throws IndexOutOfBoundsException {
        Panel start = panelAt(panel);
        Panel end = panelAt(other);
        if (start == null || end == null) {
            throw new IndexOutOfBoundsException("no such panel");
        }
        if (panel == other) {
            return start.strengthNow();
        }
        return joinUntilTogether(start, end);
    }

    private void spreadLoadFrom(Panel start) {
        for (Panel panel : panels) {
            if (panel != null) {
                panel.borne = 0;
            }
        }
        start.borne = start.strengthNow();
        // A way that passes no panel twice has fewer seams than there are panels.
        for (int round = 1; round < panelCount; round++) {
            for (Seam seam : seams) {
                if (seam != null) {
                    seam.passOnLoad();
                }
            }
        }
    }

    private long joinUntilTogether(Panel start, Panel end) {
        for (int number = 0; number < panelCount; number++) {
            Panel panel = panels[number];
            if (panel != null) {
                panel.group = number;
            }
        }
        for (int join = 1; join < panelCount; join++) {
            Seam strongest = strongestBetweenGroups();
            if (strongest == null) {
                return 0;
            }
            moveGroup(strongest.other.group, strongest.one.group);
            if (start.group == end.group) {
                // The seams joined ahead of it are as strong or stronger, so this one is the weakest of the way.
                return strongest.strengthNow();
            }
        }
        return 0;
    }

    private Seam strongestBetweenGroups() {
        Seam strongest = null;
        for (Seam seam : seams) {
            if (seam != null && seam.one.group != seam.other.group
                    && (strongest == null || seam.strengthNow() > strongest.strengthNow())) {
                strongest = seam;
            }
        }
        return strongest;
    }

    private void moveGroup(int from, int to) {
        for (Panel panel : panels) {
            if (panel != null && panel.group == from) {
                panel.group = to;
            }
        }
    }

    // ---- nets

    public int knot(int knot, int height, boolean fixed) throws IndexOutOfBoundsException, IllegalArgumentException {
        if (isOutside(knot, 0, Net.KNOTS - 1)) {
            throw new IndexOutOfBoundsException("no such knot");
        }
        if (isOutside(height, -MOST_HEIGHT, MOST_HEIGHT)) {
            throw new IllegalArgumentException("the height is out of range");
        }
        int before = net.heights[knot];
        net.heights[knot] = height;
        net.isFixed[knot] = fixed;
        return before;
    }

    public int load(int load) throws IllegalArgumentException {
        if (isOutside(load, 0, MOST_LOAD)) {
            throw new IllegalArgumentException("the load is out of range");
        }
        int before = net.load;
        net.load = load;
        return before;
    }

    public int rest(int most) throws IllegalArgumentException {
        if (isOutside(most, 1, MOST_STEPS)) {
            throw new IllegalArgumentException("the steps are out of range");
        }
        int steps = 0;
        while (steps < most && net.stepMoves()) {
            steps++;
        }
        return steps;
    }

    public int height(int knot) throws IndexOutOfBoundsException {
        if (isOutside(knot, 0, Net.KNOTS - 1)) {
            throw new IndexOutOfBoundsException("no such knot");
        }
        return net.heights[knot];
    }

    // ---- pegs

    public int peg(long hold, int stiffness) throws IllegalArgumentException, IllegalStateException {
        if (isOutside(hold, 0, MOST_HOLD) || isOutside(stiffness, 1, MOST_STIFFNESS)) {
            throw new IllegalArgumentException("the hold or the stiffness is out of range");
        }
        if (pegCount >= pegs.length) {
            throw new IllegalStateException("there were 8 pegs");
        }
        pegs[pegCount] = new Peg(hold, stiffness);
        return pegCount++;
    }

    public int gust(long force) throws IllegalArgumentException {
        if (isOutside(force, 0, MOST_FORCE)) {
            throw new IllegalArgumentException("the force is out of range");
        }
        int out = 0;
        // Each sharing but the last takes a peg out, so there are never more than pegs.
        for (int sharing = 0; sharing < MOST_PEGS; sharing++) {
            shareForce(force);
            int cameOut = takeOutOverpulled();
            if (cameOut == 0) {
                break;
            }
            out += cameOut;
        }
        return out;
    }

    public long pulled(int peg) throws IndexOutOfBoundsException {
        Peg driven = isOutside(peg, 0, pegCount - 1) ? null : pegs[peg];
        if (driven == null) {
            throw new IndexOutOfBoundsException("there was no such peg");
        }
        return driven.got;
    }

    public int pegs() {
        int sum = 0;
        for (int number = 0; number < pegCount; number++) {
            Peg peg = pegs[number];
            if (peg != null && peg.isIn) {
                sum += 1 << number;
            }
        }
        return sum;
    }

    private void shareForce(long force) {
        long together = stiffnessTogether();
        if (together <= 0) {
            return;
        }
        Peg lowest = null;
        long left = force;
        for (Peg peg : pegs) {
            if (peg != null && peg.isIn) {
                peg.got = force * peg.stiffness / together;
                left -= peg.got;
                lowest = lowest == null ? peg : lowest;
            }
        }
        if (lowest != null) {
            lowest.got += left;
        }
    }

    private long stiffnessTogether() {
        long together = 0;
        for (Peg peg : pegs) {
            if (peg != null && peg.isIn) {
                together += peg.stiffness;
            }
        }
        return together;
    }

    private int takeOutOverpulled() {
        int out = 0;
        for (Peg peg : pegs) {
            if (peg != null && peg.isIn && peg.got > peg.hold) {
                peg.isIn = false;
                out++;
            }
        }
        return out;
    }

    // ---- sails

    public float trim(int halyard, int sheet, int reefs) throws IllegalArgumentException {
        if (isOutside(halyard, 0, MOST_TRIM) || isOutside(sheet, 0, MOST_TRIM) || isOutside(reefs, 0, MOST_REEFS)) {
            throw new IllegalArgumentException("the halyard, the sheet or the reefs are out of range");
        }
        sail.halyard = halyard;
        sail.sheet = sheet;
        sail.reefs = reefs;
        return sail.draftWith(halyard);
    }

    public float power(int wind) throws IllegalArgumentException {
        if (isOutside(wind, 0, MOST_WIND)) {
            throw new IllegalArgumentException("the wind is out of range");
        }
        return sail.powerWith(sail.halyard, wind);
    }

    public int halyard(int wind, int limit) throws IllegalArgumentException {
        if (isOutside(wind, 0, MOST_WIND) || isOutside(limit, 0, MOST_LIMIT)) {
            throw new IllegalArgumentException("the wind or the limit is out of range");
        }
        for (int halyard = 0; halyard <= MOST_TRIM; halyard++) {
            if (sail.powerWith(halyard, wind) <= (float) limit) {
                return halyard;
            }
        }
        return NONE;
    }

    // ---- canopies

    public int pass(int days) throws IllegalArgumentException, IllegalStateException {
        if (isOutside(days, 1, MOST_DAYS_AT_ONCE)) {
            throw new IllegalArgumentException("the days are out of range");
        }
        if (day + days > LAST_DAY) {
            throw new IllegalStateException("the day would be above 100000");
        }
        day += days;
        return day;
    }

    public int canopy(int lot) throws IndexOutOfBoundsException, IllegalStateException {
        Lot cloth = lotAt(lot);
        if (cloth == null) {
            throw new IndexOutOfBoundsException("no such lot");
        }
        if (canopyCount >= canopies.length) {
            throw new IllegalStateException("there are 6 canopies");
        }
        canopies[canopyCount] = new Canopy(cloth, lot);
        return canopyCount++;
    }

    public int part(int canopy, int held)
            throws IndexOutOfBoundsException, IllegalArgumentException, IllegalStateException {
        Canopy begun = canopyAt(canopy);
        if (begun == null) {
            throw new IndexOutOfBoundsException("no such canopy");
        }
        if (isOutside(held, 0, MOST_HELD)) {
            throw new IllegalArgumentException("what holds the part is out of range");
        }
        if (begun.partCount >= begun.heldBy.length || begun.isSealed()) {
            throw new IllegalStateException("the canopy has 8 parts, or is sealed");
        }
        begun.heldBy[begun.partCount] = held;
        return begun.partCount++;
    }

    public int opens(int canopy) throws IndexOutOfBoundsException {
        Canopy begun = canopyAt(canopy);
        if (begun == null) {
            throw new IndexOutOfBoundsException("no such canopy");
        }
        return begun.roundsToOpen();
    }

    public int seal(int canopy, int rigger) throws IndexOutOfBoundsException, IllegalStateException {
        Canopy begun = canopyAt(canopy);
        if (begun == null || isOutside(rigger, 0, RIGGERS - 1)) {
            throw new IndexOutOfBoundsException("no such canopy or rigger");
        }
        if (!begun.isReadyToSeal()) {
            throw new IllegalStateException("the canopy cannot be sealed");
        }
        begun.rigger = rigger;
        begun.sealDay = day;
        begun.sealedTimes++;
        log.note(canopy, OF_SEALED);
        return begun.sealedTimes;
    }

    public int use(int canopy) throws IndexOutOfBoundsException, IllegalStateException {
        Canopy begun = canopyAt(canopy);
        if (begun == null) {
            throw new IndexOutOfBoundsException("no such canopy");
        }
        if (!begun.isSealed() || day - begun.sealDay > SEAL_DAYS || begun.cloth.isHeld) {
            throw new IllegalStateException("the canopy has no seal, it is too old, or the lot is held");
        }
        int rigger = begun.rigger;
        begun.loseSeal();
        begun.usedTimes++;
        log.note(canopy, OF_USED);
        return rigger;
    }

    public int wet(int canopy, boolean aired) throws IndexOutOfBoundsException, IllegalStateException {
        Canopy begun = canopyAt(canopy);
        if (begun == null) {
            throw new IndexOutOfBoundsException("no such canopy");
        }
        if (begun.isSealed()) {
            throw new IllegalStateException("the canopy is sealed");
        }
        if (aired) {
            begun.wetSinceAired = 0;
        } else {
            begun.wetSinceAired++;
            begun.wetTimes++;
            log.note(canopy, OF_WET);
        }
        return begun.wetSinceAired;
    }

    public int find(int lot, boolean isHeld) throws IndexOutOfBoundsException, IllegalStateException {
        Lot cloth = lotAt(lot);
        if (cloth == null) {
            throw new IndexOutOfBoundsException("no such lot");
        }
        if (cloth.isHeld == isHeld) {
            throw new IllegalStateException("the lot is so already");
        }
        cloth.isHeld = isHeld;
        return isHeld ? takeSealsAway(lot) : 0;
    }

    public int ofCanopy(int canopy, int what) throws IndexOutOfBoundsException, IllegalArgumentException {
        Canopy begun = canopyAt(canopy);
        if (begun == null) {
            throw new IndexOutOfBoundsException("no such canopy");
        }
        if (isOutside(what, OF_LOT, OF_WET)) {
            throw new IllegalArgumentException("what is asked is out of range");
        }
        return begun.numberOf(what);
    }

    public int lifeAnew(int canopy, int what) throws IndexOutOfBoundsException, IllegalArgumentException {
        if (canopyAt(canopy) == null) {
            throw new IndexOutOfBoundsException("no such canopy");
        }
        if (isOutside(what, OF_SEALED, OF_WET)) {
            throw new IllegalArgumentException("what is asked is out of range");
        }
        return log.timesNoted(canopy, what);
    }

    private Canopy canopyAt(int number) {
        return isOutside(number, 0, canopyCount - 1) ? null : canopies[number];
    }

    private int takeSealsAway(int lot) {
        int taken = 0;
        for (Canopy canopy : canopies) {
            if (canopy != null && canopy.lot == lot && canopy.isSealed()) {
                canopy.loseSeal();
                taken++;
            }
        }
        return taken;
    }

    private static final class Lot {
        static final int WHOLE = 1000;
        static final int LEAST = 100;

        final int warp;
        final int weft;
        final int bias;
        int hours;
        boolean isHeld;
        int rowsBehind;
        int rowAcross;
        int rowLength;

        Lot(int warp, int weft, int bias) {
            this.warp = warp;
            this.weft = weft;
            this.bias = bias;
        }

        long strengthAlong(int along) {
            long told = along == WARP ? warp : along == WEFT ? weft : bias;
            return told * Math.max(WHOLE - hours, LEAST) / WHOLE;
        }

        // Panels are cut by their numbers and stay, so the roll can be laid as they come.
        void layPanel(int width, int height, int along) {
            int across = along == WARP ? width : along == WEFT ? height : width + height;
            int length = along == WARP ? height : along == WEFT ? width : width + height;
            if (rowAcross + across > ROLL_WIDTH) {
                rowsBehind += rowLength;
                rowAcross = 0;
                rowLength = 0;
            }
            rowAcross += across;
            rowLength = Math.max(rowLength, length);
        }

        int rolledLength() {
            return rowsBehind + rowLength;
        }
    }

    private static final class Panel {
        final Lot cloth;
        final int width;
        final int along;
        // What bears and bearsAnew reckon with; it means nothing between calls.
        long borne;
        int group;

        Panel(Lot cloth, int width, int along) {
            this.cloth = cloth;
            this.width = width;
            this.along = along;
        }

        long strengthNow() {
            return cloth.strengthAlong(along) * width;
        }
    }

    private static final class Seam {
        final Panel one;
        final Panel other;
        final int hundredths;

        Seam(Panel one, Panel other, int kind) {
            this.one = one;
            this.other = other;
            this.hundredths = kind == FLAT ? 60 : kind == FELLED ? 80 : 40;
        }

        long strengthNow() {
            return Math.min(one.strengthNow(), other.strengthNow()) * hundredths / 100;
        }

        // A seam is never stronger than its panels, so what passes it passes them.
        void passOnLoad() {
            long most = strengthNow();
            other.borne = Math.max(other.borne, Math.min(one.borne, most));
            one.borne = Math.max(one.borne, Math.min(other.borne, most));
        }
    }

    private static final class Net {
        static final int SIDE = 6;
        static final int KNOTS = SIDE * SIDE;

        final int[] heights = new int[KNOTS];
        final int[] heightsAhead = new int[KNOTS];
        final boolean[] isFixed = new boolean[KNOTS];
        int load;

        Net() {
            for (int knot = 0; knot < KNOTS; knot++) {
                int row = knot / SIDE;
                int column = knot % SIDE;
                isFixed[knot] = row == 0 || row == SIDE - 1 || column == 0 || column == SIDE - 1;
            }
        }

        boolean stepMoves() {
            System.arraycopy(heights, 0, heightsAhead, 0, KNOTS);
            boolean moves = false;
            for (int knot = 0; knot < KNOTS; knot++) {
                if (!isFixed[knot]) {
                    heights[knot] = pulledHeight(knot);
                    moves = moves || heights[knot] != heightsAhead[knot];
                }
            }
            return moves;
        }

        int pulledHeight(int knot) {
            int row = knot / SIDE;
            int column = knot % SIDE;
            int sum = 0;
            int count = 0;
            int highest = 0;
            for (int side = 0; side < 4; side++) {
                int nextRow = side == 0 ? row - 1 : side == 1 ? row + 1 : row;
                int nextColumn = side == 2 ? column - 1 : side == 3 ? column + 1 : column;
                if (!isOutside(nextRow, 0, SIDE - 1) && !isOutside(nextColumn, 0, SIDE - 1)) {
                    int next = heightsAhead[nextRow * SIDE + nextColumn];
                    highest = count == 0 ? next : Math.max(highest, next);
                    sum += next;
                    count++;
                }
            }
            return count == 0 ? heightsAhead[knot] : Math.min(Math.floorDiv(sum, count) - load, highest);
        }
    }

    private static final class Peg {
        final long hold;
        final int stiffness;
        boolean isIn = true;
        long got;

        Peg(long hold, int stiffness) {
            this.hold = hold;
            this.stiffness = stiffness;
        }
    }

    private static final class Sail {
        int halyard;
        int sheet;
        int reefs;

        float draftWith(int halyardThen) {
            return 0.15f - 0.001f * halyardThen + 0.0005f * sheet;
        }

        float powerWith(int halyardThen, int wind) {
            float area = 40.0f / (1.0f + reefs);
            return draftWith(halyardThen) * area * wind * wind;
        }
    }

    private static final class Canopy {
        final Lot cloth;
        final int lot;
        final int[] heldBy = new int[MOST_PARTS];
        int partCount;
        int rigger = NONE;
        int sealDay = NONE;
        int sealedTimes;
        int usedTimes;
        int wetTimes;
        int wetSinceAired;

        Canopy(Lot cloth, int lot) {
            this.cloth = cloth;
            this.lot = lot;
        }

        boolean isSealed() {
            return sealDay != NONE;
        }

        void loseSeal() {
            rigger = NONE;
            sealDay = NONE;
        }

        boolean isReadyToSeal() {
            return !isSealed() && !cloth.isHeld && partCount > 0 && wetSinceAired < TOO_WET && roundsToOpen() != NONE;
        }

        int roundsToOpen() {
            // Parts that are not there are never shut, so they hold none.
            int shut = (1 << partCount) - 1;
            for (int round = 0; round <= MOST_PARTS; round++) {
                if (shut == 0) {
                    return round;
                }
                shut = shutAfterRound(shut);
            }
            return NONE;
        }

        int shutAfterRound(int shut) {
            int still = shut;
            for (int part = 0; part < heldBy.length; part++) {
                if ((heldBy[part] & shut) == 0) {
                    still &= ~(1 << part);
                }
            }
            return still;
        }

        int numberOf(int what) {
            switch (what) {
                case OF_LOT:
                    return lot;
                case OF_RIGGER:
                    return rigger;
                case OF_SEAL_DAY:
                    return sealDay;
                case OF_SEALED:
                    return sealedTimes;
                case OF_USED:
                    return usedTimes;
                default:
                    return wetTimes;
            }
        }
    }

    private static final class Log {
        static final int EVENTS = 8;

        final byte[] entries = new byte[MOST_CALLS];
        int count;

        // A call notes one entry at most, so a full log is behind the last call that is promised.
        void note(int canopy, int event) {
            if (count < entries.length) {
                entries[count] = (byte) (canopy * EVENTS + event);
                count++;
            }
        }

        int timesNoted(int canopy, int event) {
            int times = 0;
            for (int number = 0; number < count; number++) {
                if (entries[number] == canopy * EVENTS + event) {
                    times++;
                }
            }
            return times;
        }
    }
}
