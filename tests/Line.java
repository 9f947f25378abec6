/** A call as it is written in a test: its name and what it is told, as in "panel 0 100 40 1" or "knot 3 -5 true". */
final class Line {
    private final String text;
    private final String method;
    private final long[] told;

    Line(String text) {
        String[] words = text.split(" ");
        this.text = text;
        this.method = words[0];
        this.told = new long[words.length - 1];
        for (int word = 1; word < words.length; word++) {
            told[word - 1] = number(words[word]);
        }
    }

    private static long number(String word) {
        if (word.equals("true") || word.equals("false")) {
            return word.equals("true") ? 1 : 0;
        }
        return Long.parseLong(word);
    }

    /** What the loft answers, a throw as throws.Name. */
    String on(BroadseamLoft loft) {
        return Due.told(() -> Face.answer(loft, method, told));
    }

    @Override
    public String toString() {
        return text;
    }
}
