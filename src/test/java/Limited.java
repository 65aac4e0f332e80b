/** Runs a test's main method, and ends with exit code 1 if it has not ended in time: a class that hangs is no good one. */
public final class Limited {
    private Limited() { }

    public static void main(String[] args) throws ReflectiveOperationException {
        if (args.length != 2) {
            System.out.println("Limited SECONDS CLASS");
            System.exit(2);
        }
        int seconds = Integer.parseInt(args[0]);
        Thread watch = new Thread(() -> endBehind(seconds, args[1]));
        watch.setDaemon(true);
        watch.start();
        Class.forName(args[1]).getMethod("main", String[].class).invoke(null, (Object) new String[0]);
    }

    private static void endBehind(int seconds, String test) {
        try {
            Thread.sleep(1000L * seconds);
        } catch (InterruptedException e) {
            System.out.println(test + ": the watch was woken");
        }
        System.out.println(test + ": has not ended in " + seconds + " seconds");
        Runtime.getRuntime().halt(1);
    }
}
