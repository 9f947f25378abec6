/** What the project's tests hold answers against; a throw is told as throws.Name. */
final class Due {
    interface Call {
        Object answer();
    }

    private static int right = 0;
    private static int wrong = 0;

    private Due() {
    }

    static String told(Call call) {
        try {
            return String.valueOf(call.answer());
        } catch (RuntimeException thrown) {
            // The exact class: a machine's ArrayIndexOutOfBoundsException is not the document's.
            return "throws." + thrown.getClass().getSimpleName();
        }
    }

    static void is(Object want, String what, Call call) {
        String got = told(call);
        if (got.equals(String.valueOf(want))) {
            right++;
        } else {
            wrong++;
            System.out.println(what + " answered " + got + ", due is " + want);
        }
    }

    static void index(String what, Call call) {
        is("throws.IndexOutOfBoundsException", what, call);
    }

    static void argument(String what, Call call) {
        is("throws.IllegalArgumentException", what, call);
    }

    static void state(String what, Call call) {
        is("throws.IllegalStateException", what, call);
    }

    static void end() {
        System.out.println(right + " answers as due, " + wrong + " not");
        if (wrong != 0 || right == 0) {
            System.exit(1);
        }
    }
}
