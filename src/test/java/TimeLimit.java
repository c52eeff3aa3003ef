import java.lang.reflect.InvocationTargetException;

/**
 * Runs the main method of the named class, and ends with exit code 1 if it has not ended after some time: a call that
 * never ends must fail a test and not hold it up for good.
 */
final class TimeLimit {
    private static final int SECONDS = 90;

    public static void main(String[] args) throws Exception {
        Thread watch = new Thread(TimeLimit::stopLater);
        watch.setDaemon(true);
        watch.start();
        try {
            Class.forName(args[0]).getMethod("main", String[].class).invoke(null, (Object) new String[0]);
        } catch (InvocationTargetException thrown) {
            thrown.getCause().printStackTrace();
            System.exit(1);
        }
    }

    private static void stopLater() {
        try {
            Thread.sleep(SECONDS * 1000L);
        } catch (InterruptedException stopped) {
            return;
        }
        System.out.println("has not ended after " + SECONDS + " seconds");
        System.out.flush();
        Runtime.getRuntime().halt(1);
    }
}
