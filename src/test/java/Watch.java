/** Ends a test that does not end by itself, so that a call without an end fails a run and does not hold it up. */
final class Watch {
    private static volatile String doing = "";

    private Watch() {
    }

    static void endWithin(int seconds) {
        Thread watch = new Thread(() -> {
            try {
                Thread.sleep(1000L * seconds);
            } catch (InterruptedException none) {
                return;
            }
            System.out.println(doing + " does not end");
            Runtime.getRuntime().halt(1);
        });
        watch.setDaemon(true);
        watch.start();
    }

    /** What is told if the time is up. */
    static void isDoing(String what) {
        doing = what;
    }
}
