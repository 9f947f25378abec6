import java.util.ArrayList;
import java.util.List;

/**
 * A run of calls on a new loft for one sentence of the document, each with the answer that is due. Behind each refused
 * call two more lofts are told the calls before it, one of them the refused call too: both must answer alike then.
 */
final class Run {
    static final String INDEX = "throws.IndexOutOfBoundsException";
    static final String ARGUMENT = "throws.IllegalArgumentException";
    static final String STATE = "throws.IllegalStateException";

    // The document leaves free what later calls answer, so no test may ask them.
    private static final int MOST_CALLS = 512;

    private final String sentence;
    private final BroadseamLoft loft = new BroadseamLoft();
    private final List<Line> accepted = new ArrayList<>();
    private List<List<String>> undisturbed = null;
    private int calls = 0;

    Run(String sentence) {
        this.sentence = sentence;
    }

    /** Calls that only lead to what is asked: none may be refused. */
    Run tell(String... texts) {
        for (String text : texts) {
            String answer = call(new Line(text));
            if (answer.startsWith("throws.")) {
                Due.is("an answer", sentence + ": " + text, () -> answer);
            }
        }
        return this;
    }

    Run due(Object want, String text) {
        String answer = call(new Line(text));
        Due.is(want, sentence + ": " + text + ", call " + calls, () -> answer);
        return this;
    }

    Run refused(String exception, String... texts) {
        for (String text : texts) {
            due(exception, text);
            nothingChanged(new Line(text));
        }
        return this;
    }

    /** One below and one above a range, and far outside it: the sign # in the text is put by each of these. */
    Run outside(String exception, String pattern, int least, int most) {
        return refused(exception, put(pattern, (long) least - 1), put(pattern, (long) most + 1),
                put(pattern, Integer.MIN_VALUE), put(pattern, Integer.MAX_VALUE));
    }

    /** The same of a range of longs, with numbers that would be inside if they were cut to an int. */
    Run outsideLong(String exception, String pattern, long least, long most) {
        return refused(exception, put(pattern, least - 1), put(pattern, most + 1), put(pattern, Long.MIN_VALUE),
                put(pattern, Long.MAX_VALUE), put(pattern, (1L << 62) + 5), put(pattern, -(1L << 62) + 5));
    }

    static String put(String pattern, long number) {
        return pattern.replace("#", String.valueOf(number));
    }

    private String call(Line line) {
        calls++;
        if (calls > MOST_CALLS) {
            throw new IllegalStateException("the test asks more than 512 calls: " + sentence);
        }
        String answer = line.on(loft);
        if (!answer.startsWith("throws.")) {
            accepted.add(line);
            undisturbed = null;
        }
        return answer;
    }

    private void nothingChanged(Line refused) {
        if (undisturbed == null) {
            undisturbed = answersBehind(null);
        }
        List<List<String>> behind = answersBehind(refused);
        for (int probe = 0; probe < behind.size(); probe++) {
            List<String> got = behind.get(probe);
            Due.is(undisturbed.get(probe), sentence + ": nothing changes by " + refused, () -> got);
        }
    }

    private List<List<String>> answersBehind(Line refused) {
        List<List<String>> answers = new ArrayList<>();
        for (List<Line> probe : Probes.ALL) {
            BroadseamLoft other = new BroadseamLoft();
            for (Line line : accepted) {
                line.on(other);
            }
            if (refused != null) {
                refused.on(other);
            }
            List<String> told = new ArrayList<>();
            // A call less for both, as only one of them is told the refused one.
            for (int asked = 0; asked < probe.size() && accepted.size() + 1 + asked < MOST_CALLS; asked++) {
                Line line = probe.get(asked);
                told.add(line + " " + line.on(other));
            }
            answers.add(told);
        }
        return answers;
    }
}
