import java.util.NoSuchElementException;

/** Holds answers against those that are due, and counts the wrong ones. */
final class Checks {
    interface Call {
        int answer();
    }

    private static int wrong;
    private static int made;

    private Checks() {
    }

    static void due(String call, int want, Call made) {
        String got;
        try {
            got = Integer.toString(made.answer());
        } catch (RuntimeException e) {
            got = "throws." + e.getClass().getSimpleName();
        }
        same(call, Integer.toString(want), got);
    }

    static void noElement(String call, Call made) {
        refused(call, NoSuchElementException.class, made);
    }

    static void badArgument(String call, Call made) {
        refused(call, IllegalArgumentException.class, made);
    }

    static void badState(String call, Call made) {
        refused(call, IllegalStateException.class, made);
    }

    private static void refused(String call, Class<?> want, Call made) {
        String got;
        try {
            got = Integer.toString(made.answer());
        } catch (RuntimeException e) {
            got = "throws." + e.getClass().getSimpleName();
        }
        same(call, "throws." + want.getSimpleName(), got);
    }

    static void same(String call, String want, String got) {
        made++;
        if (!want.equals(got)) {
            wrong++;
            System.out.println(call + " answered " + got + ", due is " + want);
        }
    }

    static void end() {
        System.out.println(wrong == 0 ? made + " answers, all as due" : wrong + " of " + made + " answers are not as due");
        if (wrong != 0) {
            System.exit(1);
        }
    }
}
