/** Counts answers that are not the ones due, and tells them. */
final class Checks {
    interface Call {
        long answer();
    }

    private static final long LONGEST = 300_000;

    private final String name;
    private int made;
    private int wrong;

    Checks(String name) {
        this.name = name;
        Thread watch = new Thread(this::endLate);
        watch.setDaemon(true);
        watch.start();
    }

    // A call that does not end would keep all that waits for the tests waiting.
    private void endLate() {
        try {
            Thread.sleep(LONGEST);
        } catch (InterruptedException e) {
            return;
        }
        System.out.println(name + ": has not ended behind " + LONGEST + " milliseconds");
        Runtime.getRuntime().halt(1);
    }

    void due(String what, long want, long got) {
        made++;
        if (got != want) {
            tell(what + " answered " + got + ", due is " + want);
        }
    }

    void due(String what, String want, String got) {
        made++;
        if (!want.equals(got)) {
            tell(what + " answered " + got + ", due is " + want);
        }
    }

    void thrown(String what, Class<? extends RuntimeException> want, Call call) {
        made++;
        try {
            tell(what + " answered " + call.answer() + ", due is " + want.getSimpleName());
        } catch (RuntimeException e) {
            if (e.getClass() != want) {
                tell(what + " throws " + e + ", due is " + want.getSimpleName());
            }
        }
    }

    boolean isRight() {
        return wrong == 0;
    }

    void end() {
        System.out.println(name + ": " + made + " checks, " + wrong + " not as due");
        if (wrong != 0 || made == 0) {
            System.exit(1);
        }
    }

    private void tell(String text) {
        wrong++;
        if (wrong <= 50) {
            System.out.println(name + ": " + text);
        }
    }
}
