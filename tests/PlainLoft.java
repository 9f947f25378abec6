import java.math.BigInteger;
import java.util.ArrayList;
import java.util.List;

/** The document reckoned a second time, in other ways than the class does, to hold its answers against. */
final class PlainLoft {
    private final List<int[]> lots = new ArrayList<>(); // warp, weft, bias, hours, held
    private final List<int[]> panels = new ArrayList<>(); // lot, width, height, along
    private final List<int[]> seams = new ArrayList<>(); // panel, other, kind, ripped
    private int[][] heights = new int[6][6];
    private final boolean[][] fixed = new boolean[6][6];
    private int load = 0;
    private final List<long[]> pegs = new ArrayList<>(); // hold, stiffness, in, got
    private int halyard = 0, sheet = 0, reefs = 0;
    private int day = 0;
    private final List<List<Integer>> parts = new ArrayList<>();
    private final List<int[]> canopies = new ArrayList<>(); // lot, rigger, day, sealed, used, wet, wet since aired

    PlainLoft() {
        for (int i = 0; i < 6; i++) {
            fixed[0][i] = fixed[5][i] = fixed[i][0] = fixed[i][5] = true;
        }
    }

    private static void range(long value, long least, long most) {
        if (value < least || value > most) {
            throw new IllegalArgumentException();
        }
    }

    private static void index(int value, int count) {
        if (value < 0 || value >= count) {
            throw new IndexOutOfBoundsException();
        }
    }

    private static void state(boolean fine) {
        if (!fine) {
            throw new IllegalStateException();
        }
    }

    Object call(String method, long[] a) {
        int first = a.length > 0 ? (int) a[0] : 0;
        int second = a.length > 1 ? (int) a[1] : 0;
        int third = a.length > 2 ? (int) a[2] : 0;
        switch (method) {
            case "lot": return lot(first, second, third);
            case "sun": return sun(first, second);
            case "panel": return panel(first, second, third, (int) a[3]);
            case "strength": index(first, panels.size()); return strengthOf(first);
            case "roll": return rollOf(first);
            case "seam": return sew(first, second, third);
            case "rip": return ripOff(first);
            case "bears": case "bearsAnew": return loadBetween(first, second);
            case "knot": return tie(first, second, third == 1);
            case "load": range(first, 0, 100); int before = load; load = first; return before;
            case "rest": return goToRest(first);
            case "height": index(first, 36); return heights[first / 6][first % 6];
            case "peg": return drive(a[0], second);
            case "gust": return blow(a[0]);
            case "pulled": index(first, pegs.size()); return pegs.get(first)[3];
            case "pegs": return pegsIn();
            case "trim": return setTrim(first, second, third);
            case "power": range(first, 0, 100); return powerOf(halyard, first);
            case "halyard": return leastHalyard(first, second);
            case "pass": range(first, 1, 400); state(day + first <= 100000); return day += first;
            case "canopy": return begin(first);
            case "part": return addPart(first, second);
            case "opens": index(first, canopies.size()); return rounds(first);
            case "seal": return sealUp(first, second);
            case "use": return useUp(first);
            case "wet": return getWet(first, second == 1);
            case "find": return findOut(first, second == 1);
            case "ofCanopy": index(first, canopies.size()); range(second, 0, 5); return canopies.get(first)[second];
            case "lifeAnew": index(first, canopies.size()); range(second, 3, 5); return canopies.get(first)[second];
            default: throw new UnsupportedOperationException(method);
        }
    }

    private int lot(int warp, int weft, int bias) {
        range(warp, 1, 2000000000);
        range(weft, 1, 2000000000);
        range(bias, 1, 2000000000);
        state(lots.size() < 6);
        lots.add(new int[] {warp, weft, bias, 0, 0});
        return lots.size() - 1;
    }

    private int sun(int lot, int hours) {
        index(lot, lots.size());
        range(hours, 1, 10000);
        int then = lots.get(lot)[3] + hours;
        lots.get(lot)[3] = then > 1000000 ? 1000000 : then;
        return lots.get(lot)[3];
    }

    private int panel(int lot, int width, int height, int along) {
        index(lot, lots.size());
        range(width, 1, 150);
        range(height, 1, 150);
        range(along, 0, 2);
        range(along == 2 ? width + height : 0, 0, 150);
        state(panels.size() < 12);
        panels.add(new int[] {lot, width, height, along});
        return panels.size() - 1;
    }

    private long strengthOf(int number) {
        int[] panel = panels.get(number);
        int[] lot = lots.get(panel[0]);
        int left = 1000 - lot[3];
        BigInteger now = BigInteger.valueOf(lot[panel[3]])
                .multiply(BigInteger.valueOf(left < 100 ? 100 : left)).divide(BigInteger.valueOf(1000));
        return now.longValueExact() * panel[1];
    }

    private int rollOf(int lot) {
        index(lot, lots.size());
        List<int[]> rows = new ArrayList<>(); // across, length
        for (int[] panel : panels) {
            if (panel[0] != lot) {
                continue;
            }
            int both = panel[1] + panel[2];
            int across = new int[] {panel[1], panel[2], both}[panel[3]];
            int length = new int[] {panel[2], panel[1], both}[panel[3]];
            int[] last = rows.isEmpty() ? null : rows.get(rows.size() - 1);
            if (last == null || 150 - last[0] < across) {
                rows.add(new int[] {across, length});
            } else {
                last[0] += across;
                last[1] = last[1] < length ? length : last[1];
            }
        }
        int sum = 0;
        for (int[] row : rows) {
            sum += row[1];
        }
        return sum;
    }

    private int sew(int panel, int other, int kind) {
        index(panel, panels.size());
        index(other, panels.size());
        range(kind, 0, 2);
        range(panel == other ? 1 : 0, 0, 0);
        state(seams.size() < 30);
        seams.add(new int[] {panel, other, kind, 0});
        return seams.size() - 1;
    }

    private long seamStrength(int[] seam) {
        long one = strengthOf(seam[0]);
        long other = strengthOf(seam[1]);
        return (one < other ? one : other) * new int[] {60, 80, 40}[seam[2]] / 100;
    }

    private long ripOff(int seam) {
        index(seam, seams.size());
        index(seams.get(seam)[3] == 0 ? 0 : 1, 1);
        seams.get(seam)[3] = 1;
        return seamStrength(seams.get(seam));
    }

    /** The greatest of all strengths by which there is a way of panels and seams that are all as strong. */
    private long loadBetween(int panel, int other) {
        index(panel, panels.size());
        index(other, panels.size());
        long best = 0;
        List<Long> tries = new ArrayList<>();
        for (int[] seam : seams) {
            tries.add(seamStrength(seam));
        }
        for (int number = 0; number < panels.size(); number++) {
            tries.add(strengthOf(number));
        }
        for (long least : tries) {
            if (least > best && reaches(panel, other, least, new boolean[12])) {
                best = least;
            }
        }
        return best;
    }

    private boolean reaches(int panel, int other, long least, boolean[] seen) {
        if (seen[panel] || strengthOf(panel) < least) {
            return false;
        }
        seen[panel] = true;
        if (panel == other) {
            return true;
        }
        for (int[] seam : seams) {
            if (seam[3] == 0 && seamStrength(seam) >= least) {
                if (seam[0] == panel && reaches(seam[1], other, least, seen)
                        || seam[1] == panel && reaches(seam[0], other, least, seen)) {
                    return true;
                }
            }
        }
        return false;
    }

    private int tie(int knot, int height, boolean isFixed) {
        index(knot, 36);
        range(height, -10000, 10000);
        int before = heights[knot / 6][knot % 6];
        heights[knot / 6][knot % 6] = height;
        fixed[knot / 6][knot % 6] = isFixed;
        return before;
    }

    private int goToRest(int most) {
        range(most, 1, 50);
        for (int step = 0; step < most; step++) {
            int[][] next = new int[6][6];
            boolean same = true;
            for (int row = 0; row < 6; row++) {
                for (int column = 0; column < 6; column++) {
                    next[row][column] = fixed[row][column] ? heights[row][column] : comesTo(row, column);
                    same &= next[row][column] == heights[row][column];
                }
            }
            heights = next;
            if (same) {
                return step;
            }
        }
        return most;
    }

    private int comesTo(int row, int column) {
        List<Integer> beside = new ArrayList<>();
        if (row > 0) {
            beside.add(heights[row - 1][column]);
        }
        if (row < 5) {
            beside.add(heights[row + 1][column]);
        }
        if (column > 0) {
            beside.add(heights[row][column - 1]);
        }
        if (column < 5) {
            beside.add(heights[row][column + 1]);
        }
        int sum = 0;
        int highest = beside.get(0);
        for (int height : beside) {
            sum += height;
            highest = height > highest ? height : highest;
        }
        int mean = (sum - (sum % beside.size() + beside.size()) % beside.size()) / beside.size();
        return mean - load > highest ? highest : mean - load;
    }

    private int drive(long hold, int stiffness) {
        range(hold, 0, 4000000000000L);
        range(stiffness, 1, 100);
        state(pegs.size() < 8);
        pegs.add(new long[] {hold, stiffness, 1, 0});
        return pegs.size() - 1;
    }

    private int blow(long force) {
        range(force, 0, 40000000000000L);
        List<long[]> in = new ArrayList<>();
        for (long[] peg : pegs) {
            if (peg[2] == 1) {
                in.add(peg);
            }
        }
        int all = in.size();
        boolean anyOut = true;
        while (anyOut && !in.isEmpty()) {
            share(force, in);
            anyOut = in.removeIf(peg -> peg[3] > peg[0]);
        }
        for (long[] peg : pegs) {
            peg[2] = in.contains(peg) ? 1 : 0;
        }
        return all - in.size();
    }

    private static void share(long force, List<long[]> in) {
        long together = 0;
        for (long[] peg : in) {
            together += peg[1];
        }
        long given = 0;
        for (long[] peg : in) {
            peg[3] = BigInteger.valueOf(force).multiply(BigInteger.valueOf(peg[1]))
                    .divide(BigInteger.valueOf(together)).longValueExact();
            given += peg[3];
        }
        in.get(0)[3] += force - given;
    }

    private int pegsIn() {
        int sum = 0;
        for (int peg = pegs.size() - 1; peg >= 0; peg--) {
            sum = 2 * sum + (int) pegs.get(peg)[2];
        }
        return sum;
    }

    private float setTrim(int newHalyard, int newSheet, int newReefs) {
        range(newHalyard, 0, 100);
        range(newSheet, 0, 100);
        range(newReefs, 0, 3);
        halyard = newHalyard;
        sheet = newSheet;
        reefs = newReefs;
        return draftOf(halyard);
    }

    private float draftOf(int at) {
        float draft = 0.15f;
        draft -= 0.001f * (float) at;
        draft += 0.0005f * (float) sheet;
        return draft;
    }

    private float powerOf(int at, int wind) {
        float power = draftOf(at);
        power *= 40.0f / (1.0f + (float) reefs);
        power *= (float) wind;
        power *= (float) wind;
        return power;
    }

    private int leastHalyard(int wind, int limit) {
        range(wind, 0, 100);
        range(limit, 0, 100000);
        int least = -1;
        for (int at = 100; at >= 0; at--) {
            least = powerOf(at, wind) > (float) limit ? least : at;
        }
        return least;
    }

    private int begin(int lot) {
        index(lot, lots.size());
        state(canopies.size() < 6);
        canopies.add(new int[] {lot, -1, -1, 0, 0, 0, 0});
        parts.add(new ArrayList<>());
        return canopies.size() - 1;
    }

    private int addPart(int canopy, int held) {
        index(canopy, canopies.size());
        range(held, 0, 255);
        state(parts.get(canopy).size() < 8 && canopies.get(canopy)[1] == -1);
        parts.get(canopy).add(held);
        return parts.get(canopy).size() - 1;
    }

    /** The longest chain of parts that hold each other, or -1 with a ring of them. */
    private int rounds(int canopy) {
        int longest = 0;
        for (int part = 0; part < parts.get(canopy).size(); part++) {
            int chain = chainTo(parts.get(canopy), part, 1);
            if (chain > 8) {
                return -1;
            }
            longest = chain > longest ? chain : longest;
        }
        return longest;
    }

    private static int chainTo(List<Integer> held, int part, int length) {
        int longest = length;
        for (int holder = 0; holder < held.size() && longest <= 8; holder++) {
            if ((held.get(part) >> holder & 1) == 1) {
                int chain = chainTo(held, holder, length + 1);
                longest = chain > longest ? chain : longest;
            }
        }
        return longest;
    }

    private int sealUp(int canopy, int rigger) {
        index(canopy, canopies.size());
        index(rigger, 5);
        int[] it = canopies.get(canopy);
        state(it[1] == -1);
        state(lots.get(it[0])[4] == 0);
        state(rounds(canopy) > 0);
        state(it[6] <= 2);
        it[1] = rigger;
        it[2] = day;
        return ++it[3];
    }

    private int useUp(int canopy) {
        index(canopy, canopies.size());
        int[] it = canopies.get(canopy);
        state(it[1] != -1 && it[2] + 180 >= day && lots.get(it[0])[4] == 0);
        int rigger = it[1];
        it[1] = it[2] = -1;
        it[4]++;
        return rigger;
    }

    private int getWet(int canopy, boolean aired) {
        index(canopy, canopies.size());
        int[] it = canopies.get(canopy);
        state(it[1] == -1);
        it[5] += aired ? 0 : 1;
        it[6] = aired ? 0 : it[6] + 1;
        return it[6];
    }

    private int findOut(int lot, boolean isHeld) {
        index(lot, lots.size());
        state(lots.get(lot)[4] != (isHeld ? 1 : 0));
        lots.get(lot)[4] = isHeld ? 1 : 0;
        int taken = 0;
        for (int[] it : canopies) {
            if (isHeld && it[0] == lot && it[1] != -1) {
                it[1] = it[2] = -1;
                taken++;
            }
        }
        return taken;
    }
}
