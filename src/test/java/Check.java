import java.util.function.LongSupplier;

/** What the tests share: comparing answers, making lifts, and choosing what the random state draws next. */
final class Check {
    static final int NONE = GripInspector.NONE;
    static final Class<?> INDEX = IndexOutOfBoundsException.class;
    static final Class<?> ARGUMENT = IllegalArgumentException.class;
    static final Class<?> STATE = IllegalStateException.class;

    private static final long FACTOR = 6364136223846793005L;
    private static final long ADDEND = 1442695040888963407L;
    private static int wrong = 0;

    private Check() {
    }

    static void same(String call, Object got, Object due) {
        if (got.equals(due)) return;
        wrong++;
        System.out.println(call + " answered " + got + ", due is " + due);
    }

    static void same(String call, long got, long due) {
        same(call, Long.valueOf(got), Long.valueOf(due));
    }

    /** The call throws just this exception and changes nothing that can be seen. */
    static void fails(String call, GripInspector x, Class<?> due, LongSupplier tried) {
        String before = face(x);
        same(call, outcome(tried), "throws " + due.getSimpleName());
        same(call + " leaves behind", face(x), before);
    }

    static String outcome(LongSupplier tried) {
        try {
            return String.valueOf(tried.getAsLong());
        } catch (RuntimeException e) {
            return "throws " + e.getClass().getSimpleName();
        }
    }

    static void end() {
        System.out.println(wrong == 0 ? "all answers are as due" : wrong + " answers are not as due");
        if (wrong != 0) System.exit(1);
    }

    static int type(GripInspector x, String text) {
        for (int i = 0; i < text.length(); i++) x.append(text.charAt(i));
        return text.length();
    }

    static GripInspector lift(String text) {
        GripInspector x = new GripInspector();
        type(x, text);
        x.load();
        return x;
    }

    /** Makes a step in which r is as given. */
    static int stepWith(GripInspector x, int r) {
        x.setRandom(stateBefore(r));
        return x.step(1);
    }

    /** The random state of which the next step makes one whose r is as given. */
    static long stateBefore(int r) {
        long inverse = 1;
        for (int i = 0; i < 7; i++) inverse *= 2 - FACTOR * inverse;
        return (((long) r << 33) - ADDEND) * inverse;
    }

    static long stateAfter(long x) {
        return x * FACTOR + ADDEND;
    }

    static String report(GripInspector x) {
        StringBuilder signs = new StringBuilder();
        for (int i = 0; x.report(i) != NONE; i++) signs.append((char) x.report(i));
        return signs.toString();
    }

    /** A grip's eight numbers. */
    static String grip(GripInspector x, int g) {
        StringBuilder numbers = new StringBuilder();
        for (int what = 0; what <= 7; what++) numbers.append(what == 0 ? "" : " ").append(x.grip(g, what));
        return numbers.toString();
    }

    /** The thirteen numbers of about(). */
    static String about(GripInspector x) {
        StringBuilder numbers = new StringBuilder();
        for (int what = 0; what <= 12; what++) numbers.append(what == 0 ? "" : " ").append(x.about(what));
        return numbers.toString();
    }

    /** The state, as its own methods tell it. */
    static String state(GripInspector x) {
        StringBuilder all = new StringBuilder(about(x)).append(" / ").append(x.random()).append(" / ").append(report(x));
        for (int g = 0; g < x.about(1); g++) all.append(" / ").append(grip(x, g));
        return all.toString();
    }

    /** All that can be seen without a change: the state, and where the text goes wrong. */
    static String face(GripInspector x) {
        return state(x) + " / " + x.errorPosition();
    }
}
