/** What the tests share: each due answer that is not given is printed, and lets the test fail at its end. */
final class Dues {
    private static final int MOST_PRINTED = 60;
    private static int wrong = 0;
    private static int looked = 0;
    private static String place = "";

    /** A call of the face. */
    interface Call {
        Object answer();
    }

    private Dues() {
    }

    static void due(String what, Object want, Object got) {
        looked++;
        if (want.equals(got)) return;
        wrong++;
        if (wrong <= MOST_PRINTED) System.out.println(place + what + ": due is " + want + ", got " + got);
    }

    /** What is due from now on is told to be under this, or nothing. */
    static void under(String name) {
        place = name.isEmpty() ? "" : "[" + name + "] ";
    }

    static int lookedAt() {
        return looked;
    }

    /** Returns what a call answers, or throws. The machine's own exceptions are told by their names, too. */
    static Object of(Call call) {
        try {
            return call.answer();
        } catch (RuntimeException thrown) {
            return "throws " + thrown.getClass().getSimpleName();
        }
    }

    static void due(String what, Object want, Call call) {
        due(what, want, of(call));
    }

    static void refused(String what, Class<? extends RuntimeException> kind, Call call) {
        due(what, "throws " + kind.getSimpleName(), of(call));
    }

    static void close(String test) {
        System.out.println(test + ": " + looked + " looked at, " + wrong + " wrong");
        if (wrong > 0 || looked == 0) System.exit(1);
    }
}
