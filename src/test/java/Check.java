import java.util.Objects;
import java.util.function.IntFunction;

/** What the tests share: comparing answers, and looking at all that an object shows. */
final class Check {
    static final String INDEX = "throws.IndexOutOfBoundsException";
    static final String ARGUMENT = "throws.IllegalArgumentException";
    static final String STATE = "throws.IllegalStateException";

    private static int wrong = 0;
    private static int made = 0;
    private static String sentence = "";

    interface Call {
        Object answer();
    }

    /** The answer as a text, or the name of just the exception that was thrown. */
    static String answerOf(Call call) {
        try {
            return String.valueOf(call.answer());
        } catch (RuntimeException e) {
            return "throws." + e.getClass().getSimpleName() + (isThrownByCode(e) ? "" : " by the library");
        }
    }

    /** A list's own check of an index bears the due name too, but is not the program's throw. */
    private static boolean isThrownByCode(RuntimeException e) {
        StackTraceElement[] frames = e.getStackTrace();
        String thrower = frames.length == 0 ? "" : frames[0].getClassName();
        return thrower.startsWith("RankStock") || thrower.startsWith("Model");
    }

    /** What follows tests these words of the document. */
    static void sentence(String words) {
        sentence = words + " | ";
    }

    static void due(String what, Object want, Call call) {
        same(what, String.valueOf(want), answerOf(call));
    }

    static void same(String what, Object want, Object got) {
        made++;
        if (!Objects.equals(want, got)) {
            wrong++;
            if (wrong <= 40) {
                System.out.println(sentence + what + " answered " + got + ", due is " + want);
            }
        }
    }

    /** The call throws that exception, and nothing that can be seen has changed. */
    static void refused(Office x, String what, String exception, Call call) {
        String before = seen(x);
        x.keepEach(true);
        due(what, exception, call);
        x.keepEach(false);
        same(what + ": what is seen after it", before, seen(x));
    }

    /** The same of each of the values. */
    static void refusedEach(Office x, String what, String exception, int[] values, IntFunction<Object> call) {
        for (int value : values) {
            refused(x, what + " " + value, exception, () -> call.apply(value));
        }
    }

    static int countWrong() {
        return wrong;
    }

    static void end(String name) {
        System.out.println(name + ": " + made + " checks, " + wrong + " wrong");
        if (wrong != 0) {
            System.exit(1);
        }
    }

    private static boolean isThere(Call call) {
        return !answerOf(call).equals(INDEX);
    }

    /** Every answer that changes nothing, as one text. */
    static String seen(Office x) {
        StringBuilder all = new StringBuilder();
        int riders = 0;
        while (riders < 20 && isThere(riderProbe(x, riders))) {
            all.append(" counts ").append(x.counts(riders));
            riders++;
        }
        for (int rank = 0; rank < 12; rank++) {
            all.append(" ranked ").append(x.ranked(rank));
        }
        for (int b = 0; b < 20 && isThere(beastProbe(x, b)); b++) {
            all.append("\n beast ").append(b).append(':');
            for (int what = 0; what < 5; what++) {
                all.append(' ').append(x.beastIs(b, what));
            }
        }
        for (int r = 0; r < 12 && isThere(rodeoProbe(x, r)); r++) {
            all.append("\n rodeo ").append(r).append(": most ").append(x.most(r)).append(" is");
            for (int what = 0; what < 5; what++) {
                all.append(' ').append(x.rodeoIs(r, what));
            }
            for (int rider = 0; rider < riders; rider++) {
                all.append(" | ").append(x.placed(r, rider)).append(' ').append(x.drawn(r, rider));
                all.append(' ').append(x.isOffered(r, rider)).append(' ').append(x.score(r, rider));
                all.append(' ').append(x.got(r, rider));
            }
        }
        return all.append(' ').append(x.balances()).toString();
    }

    private static Call riderProbe(Office x, int rider) {
        return () -> x.counts(rider);
    }

    private static Call beastProbe(Office x, int beast) {
        return () -> x.beastIs(beast, 0);
    }

    private static Call rodeoProbe(Office x, int rodeo) {
        return () -> x.rodeoIs(rodeo, 0);
    }

    /** The two judges' marks as one number. */
    static int marks(int rider0, int beast0, int rider1, int beast1) {
        if (Math.max(Math.max(rider0, beast0), Math.max(rider1, beast1)) > 25) {
            throw new AssertionError("a test tells a mark above 25");
        }
        return rider0 + 26 * (beast0 + 26 * (rider1 + 26 * beast1));
    }
}
