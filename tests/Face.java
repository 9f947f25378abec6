/** Calls of the public face by their names, with what they are told as numbers: 1 for true, 0 for false. */
final class Face {
    private Face() {
    }

    static Object answer(BroadseamLoft loft, String method, long[] told) {
        int first = told.length > 0 ? (int) told[0] : 0;
        int second = told.length > 1 ? (int) told[1] : 0;
        int third = told.length > 2 ? (int) told[2] : 0;
        switch (method) {
            case "lot": return loft.lot(first, second, third);
            case "sun": return loft.sun(first, second);
            case "panel": return loft.panel(first, second, third, (int) told[3]);
            case "strength": return loft.strength(first);
            case "roll": return loft.roll(first);
            case "seam": return loft.seam(first, second, third);
            case "rip": return loft.rip(first);
            case "bears": return loft.bears(first, second);
            case "bearsAnew": return loft.bearsAnew(first, second);
            case "knot": return loft.knot(first, second, third == 1);
            case "load": return loft.load(first);
            case "rest": return loft.rest(first);
            case "height": return loft.height(first);
            case "peg": return loft.peg(told[0], second);
            case "gust": return loft.gust(told[0]);
            case "pulled": return loft.pulled(first);
            case "pegs": return loft.pegs();
            case "trim": return loft.trim(first, second, third);
            case "power": return loft.power(first);
            case "halyard": return loft.halyard(first, second);
            case "pass": return loft.pass(first);
            case "canopy": return loft.canopy(first);
            case "part": return loft.part(first, second);
            case "opens": return loft.opens(first);
            case "seal": return loft.seal(first, second);
            case "use": return loft.use(first);
            case "wet": return loft.wet(first, second == 1);
            case "find": return loft.find(first, second == 1);
            case "ofCanopy": return loft.ofCanopy(first, second);
            case "lifeAnew": return loft.lifeAnew(first, second);
            default: throw new UnsupportedOperationException(method);
        }
    }
}
