/** Counts and prints what is not as due; every test ends with finish(). */
final class Check {
    interface Call {
        long answer();
    }

    private static final long MOST_MILLISECONDS = 300_000;

    private static int asked = 0;
    private static int wrong = 0;
    private static volatile String about = "";

    /** A call that never ends is wrong too, and must not hold up .ci/run for good. */
    static {
        Thread watch = new Thread(() -> {
            try {
                Thread.sleep(MOST_MILLISECONDS);
            } catch (InterruptedException e) {
                return;
            }
            System.out.println("  " + about + "a call does not end");
            Runtime.getRuntime().halt(1);
        });
        watch.setDaemon(true);
        watch.start();
    }

    private Check() {
    }

    /** What is told from now on begins with this. */
    static void about(String text) {
        about = text;
    }

    /** How many checks there were so far. */
    static int asked() {
        return asked;
    }

    static void due(String what, long got, long want) {
        asked++;
        if (got != want) {
            tell(what + " answered " + got + ", due is " + want);
        }
    }

    static void due(String what, boolean got, boolean want) {
        due(what, got ? 1L : 0L, want ? 1L : 0L);
    }

    static void dueDouble(String what, double got, double want) {
        asked++;
        if (got != want) {
            tell(what + " answered " + got + ", due is " + want);
        }
    }

    static void dueText(String what, String got, String want) {
        asked++;
        if (!got.equals(want)) {
            tell(what + " answered " + got + ", due is " + want);
        }
    }

    /** The call throws exactly this class, and the town's digest is as before. */
    static void dueThrow(String what, BargeWards town, Class<?> want, Call call) {
        long before = town.digest();
        dueText(what, outcome(call), "throws." + want.getSimpleName());
        due(what + " throws and changes nothing: digest()", town.digest(), before);
    }

    /** The answer as a text, or throws.X. */
    static String outcome(Call call) {
        try {
            return Long.toString(call.answer());
        } catch (RuntimeException e) {
            return "throws." + e.getClass().getSimpleName();
        }
    }

    static void finish(String test) {
        System.out.println(test + ": " + asked + " checks, " + wrong + " wrong");
        if (wrong != 0) {
            System.exit(1);
        }
    }

    private static void tell(String text) {
        wrong++;
        if (wrong <= 50) {
            System.out.println("  " + about + text);
        }
    }
}
