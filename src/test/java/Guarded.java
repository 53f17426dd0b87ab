import java.lang.reflect.InvocationTargetException;

/** Runs the main method of the test that is named, and lets it fail if it does not end: each call must. */
public final class Guarded {
    private static final long MOST_MILLISECONDS = 120_000;

    public static void main(String[] args) throws ReflectiveOperationException {
        Thread guard = new Thread(() -> endLateTest(args[0]));
        guard.setDaemon(true);
        guard.start();
        try {
            Class.forName(args[0]).getMethod("main", String[].class).invoke(null, (Object) new String[0]);
        } catch (InvocationTargetException thrown) {
            thrown.getCause().printStackTrace(System.out);
            System.exit(1);
        }
    }

    private static void endLateTest(String test) {
        try {
            Thread.sleep(MOST_MILLISECONDS);
        } catch (InterruptedException interrupted) {
            return;
        }
        System.out.println(test + " does not end");
        Runtime.getRuntime().halt(1);
    }
}
