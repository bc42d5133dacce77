/**
 * What the tests share: compares answers with those that are due, counts, and ends the program. What
 * ReadmeTest's own class calls is public, since another loader loads that class.
 */
public final class Check {
    public interface Call {
        void run();
    }

    private static int done = 0;
    private static int wrong = 0;
    private static String about = "";

    private Check() {
    }

    /** What the checks from here on are for; it is told with every fault. */
    static void about(String words) {
        about = words + ": ";
    }

    public static void due(String call, long got, long want) {
        done++;
        if (got != want) {
            tell(call + " answered " + got + ", due is " + want);
        }
    }

    public static void due(String call, boolean got, boolean want) {
        done++;
        if (got != want) {
            tell(call + " answered " + got + ", due is " + want);
        }
    }

    public static void outOfBounds(String call, Call body) {
        throwsExactly(call, IndexOutOfBoundsException.class, body);
    }

    public static void illegal(String call, Call body) {
        throwsExactly(call, IllegalArgumentException.class, body);
    }

    /** The class must be the named one itself: a class below it would be the machine's own throw. */
    private static void throwsExactly(String call, Class<?> want, Call body) {
        done++;
        Class<?> got = null;
        try {
            body.run();
        } catch (RuntimeException e) {
            got = e.getClass();
        }
        if (got != want) {
            String what = got == null ? "nothing" : got.getName();
            tell(call + " threw " + what + ", due is " + want.getName());
        }
    }

    static void tell(String fault) {
        wrong++;
        System.out.println(about + fault);
    }

    static boolean clean() {
        return wrong == 0;
    }

    static void end(String test) {
        System.out.println(test + ": " + done + " checks, " + wrong + " wrong");
        if (wrong != 0) {
            System.exit(1);
        }
    }
}
