import java.util.function.LongSupplier;
import java.util.function.Supplier;
import java.util.function.ToLongBiFunction;
import java.util.function.ToLongFunction;

/** What the tests share: comparing answers, making lifts, and choosing what the random state draws next. */
final class Check {
    static final int NONE = GripInspector.NONE;
    static final Class<?> INDEX = IndexOutOfBoundsException.class;
    static final Class<?> ARGUMENT = IllegalArgumentException.class;
    static final Class<?> STATE = IllegalStateException.class;

    private static final long FACTOR = 6364136223846793005L;
    private static final long ADDEND = 1442695040888963407L;
    private static final int MINUTES = 10;
    private static int wrong = 0;

    /** What a fault says before the call: the sentence that is being tested, if it is one. */
    static String topic = "";

    static {
        endInTime();
    }

    private Check() {
    }

    static void same(String call, Object got, Object due) {
        if (got.equals(due)) return;
        wrong++;
        System.out.println(topic + call + " answered " + got + ", due is " + due);
    }

    static void same(String call, long got, long due) {
        same(call, Long.valueOf(got), Long.valueOf(due));
    }

    /** The call throws just this exception and changes nothing that can be seen. */
    static void fails(String call, GripInspector x, Class<?> due, LongSupplier tried) {
        String before = face(x);
        same(call, outcome(tried), "throws " + due.getSimpleName());
        same(call + " leaves behind", face(x), before);
    }

    /** The call throws just this exception, and nothing is different behind it, neither now nor later. */
    static void refuses(String call, Supplier<GripInspector> maker, Class<?> due, ToLongFunction<GripInspector> tried) {
        GripInspector x = maker.get();
        same(call, outcome(() -> tried.applyAsLong(x)), "throws " + due.getSimpleName());
        changesNothing(call, maker, tried);
    }

    /** The numbers beside a range are refused, and so are those far away from it. */
    static void refusesBeside(int low, int high, String call, Supplier<GripInspector> maker, Class<?> due,
            ToLongBiFunction<GripInspector, Integer> tried) {
        for (int number : new int[] {low - 1, high + 1, Integer.MIN_VALUE, Integer.MAX_VALUE}) {
            refuses(call + " of " + number, maker, due, x -> tried.applyAsLong(x, number));
        }
    }

    static void changesNothing(String call, Supplier<GripInspector> maker, ToLongFunction<GripInspector> tried) {
        Supplier<GripInspector> behind = () -> {
            GripInspector x = maker.get();
            outcome(() -> tried.applyAsLong(x));
            return x;
        };
        same(call + " leaves", whole(behind), whole(maker));
    }

    /** Grip 0 on slot 0 of 12, 1 on slot 3, 2 and 3 in the garage, 4 in the workshop, 5 scrapped; the spacing is 3. */
    static GripInspector busy() {
        GripInspector x = lift("L120150939g000g203h2h3g001h0");
        x.save(0);
        x.step(1);
        x.scrap(5);
        x.setLimit(0, 50);
        x.save(1);
        for (int i = 1; i <= 12; i++) x.setRandom(i);
        return x;
    }

    static String outcome(LongSupplier tried) {
        try {
            return String.valueOf(tried.getAsLong());
        } catch (RuntimeException e) {
            return "throws " + e.getClass().getSimpleName();
        }
    }

    static void end() {
        System.out.println(wrong == 0 ? "all answers are as due" : wrong + " answers are not as due");
        if (wrong != 0) System.exit(1);
    }

    static int type(GripInspector x, String text) {
        for (int i = 0; i < text.length(); i++) x.append(text.charAt(i));
        return text.length();
    }

    static GripInspector lift(String text) {
        GripInspector x = new GripInspector();
        type(x, text);
        x.load();
        return x;
    }

    /** Makes a step in which r is as given. */
    static int stepWith(GripInspector x, int r) {
        x.setRandom(stateBefore(r));
        return x.step(1);
    }

    /** The random state of which the next step makes one whose r is as given. */
    static long stateBefore(int r) {
        return stateThatMakes((long) r << 33);
    }

    /** The random state of which the next step makes x. */
    static long stateThatMakes(long x) {
        long inverse = 1;
        for (int i = 0; i < 7; i++) inverse *= 2 - FACTOR * inverse;
        return (x - ADDEND) * inverse;
    }

    static long stateAfter(long x) {
        return x * FACTOR + ADDEND;
    }

    static String report(GripInspector x) {
        StringBuilder signs = new StringBuilder();
        for (int i = 0; x.report(i) != NONE; i++) signs.append((char) x.report(i));
        return signs.toString();
    }

    /** A grip's eight numbers. */
    static String grip(GripInspector x, int g) {
        StringBuilder numbers = new StringBuilder();
        for (int what = 0; what <= 7; what++) numbers.append(what == 0 ? "" : " ").append(x.grip(g, what));
        return numbers.toString();
    }

    /** The thirteen numbers of about(). */
    static String about(GripInspector x) {
        StringBuilder numbers = new StringBuilder();
        for (int what = 0; what <= 12; what++) numbers.append(what == 0 ? "" : " ").append(x.about(what));
        return numbers.toString();
    }

    /** The state, as its own methods tell it. */
    static String state(GripInspector x) {
        StringBuilder all = new StringBuilder(about(x)).append(" / ").append(x.random()).append(" / ").append(report(x));
        for (int g = 0; g < x.about(1); g++) all.append(" / ").append(grip(x, g));
        return all.toString();
    }

    /** All that can be seen without a change: the state, and where the text goes wrong. */
    static String face(GripInspector x) {
        return state(x) + " / " + x.errorPosition();
    }

    /**
     * All that an object holds: what can be seen, the remembered states, the save slots and the text. Each part is asked
     * of an object of its own, for an object is good for 512 calls.
     */
    static String whole(Supplier<GripInspector> maker) {
        StringBuilder all = new StringBuilder(face(maker.get()));
        for (int times = 1; times <= 15; times++) {
            GripInspector x = maker.get();
            for (int i = 1; i <= times; i++) all.append(" / undo ").append(outcome(x::undo));
            all.append(" / ").append(state(x));
        }
        for (int slot = 0; slot <= 1; slot++) {
            int saved = slot;
            GripInspector x = maker.get();
            all.append(" / restore ").append(outcome(() -> x.restore(saved))).append(" / ").append(state(x));
        }
        GripInspector x = maker.get();
        all.append(" / load ").append(outcome(x::load)).append(" / ").append(state(x));
        return all.append(" / text ").append(maker.get().clearText()).toString();
    }

    /** A call that runs without end fails the test instead of holding up .ci/run. */
    private static void endInTime() {
        Thread watch = new Thread(() -> {
            try {
                Thread.sleep(MINUTES * 60_000L);
            } catch (InterruptedException e) {
                return;
            }
            System.out.println(topic + "a call has not ended in " + MINUTES + " minutes");
            Runtime.getRuntime().halt(1);
        });
        watch.setDaemon(true);
        watch.start();
    }
}
