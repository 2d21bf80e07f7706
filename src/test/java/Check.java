import java.util.NoSuchElementException;
import java.util.Set;

/** What the project's tests share: each prints the calls whose answers are not as due, and ends with 1 then. */
final class Check {
    private static final Set<Class<?>> NAMED = Set.of(IndexOutOfBoundsException.class,
            IllegalArgumentException.class, IllegalStateException.class, NoSuchElementException.class);

    private static int wrong = 0;
    private static int asked = 0;

    private Check() {
    }

    static void due(String call, Object got, Object want) {
        asked++;
        if (!got.equals(want)) {
            wrong++;
            System.out.println(call + " answered " + got + ", due is " + want);
        }
    }

    /** The exception is due itself, not a kind of it, and thrown by the class, not by what it calls. */
    static void dueThrow(String call, Class<? extends RuntimeException> want, Runnable run) {
        asked++;
        String got = "nothing";
        try {
            run.run();
        } catch (RuntimeException e) {
            if (e.getClass() == want && isThrownByTheClass(e)) {
                return;
            }
            got = e.getClass().getName() + (isThrownByTheClass(e) ? "" : " of the library's");
        }
        wrong++;
        System.out.println(call + " threw " + got + ", due is " + want.getName());
    }

    /** By a throw of its own: the machine's exceptions are kinds of those that the document names, or others. */
    static boolean isThrownByTheClass(RuntimeException e) {
        StackTraceElement[] trace = e.getStackTrace();
        return NAMED.contains(e.getClass()) && trace.length > 0
                && trace[0].getClassName().startsWith("CairnCipher");
    }

    static int wrongs() {
        return wrong;
    }

    static void end() {
        System.out.println(wrong + " of " + asked + " answers are not as due");
        if (wrong != 0 || asked == 0) {
            System.exit(1);
        }
    }
}
