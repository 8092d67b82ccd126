/** Counts the answers that are not as due, prints them, and ends a test with the exit code. */
final class Checks {
    private final String name;
    private int made;
    private int wrong;

    Checks(String name) {
        this.name = name;
    }

    /** Runs the test of one sentence of the document, which has to check something. */
    void sentence(String words, Runnable test) {
        int madeBefore = made;
        int wrongBefore = wrong;
        try {
            test.run();
        } catch (RuntimeException thrown) {
            wrong++;
            System.out.println(name + ": " + thrown);
        }
        if (made == madeBefore) {
            wrong++;
        }
        if (wrong > wrongBefore) {
            System.out.println(name + ": not held or not tested: " + words);
        }
    }

    void due(String what, long got, long want) {
        due(what, Long.toString(got), Long.toString(want));
    }

    void due(String what, boolean got, boolean want) {
        due(what, Boolean.toString(got), Boolean.toString(want));
    }

    void due(String what, String got, String want) {
        made++;
        if (!got.equals(want)) {
            wrong++;
            System.out.println(name + ": " + what + " answered " + got + ", due is " + want);
        }
    }

    /** The call throws just this exception, and nothing that can be asked for changes. */
    void refused(String what, BackwardSearch x, Class<? extends Exception> due, Runnable call) {
        String before = Picture.of(x);
        due(what, outcome(call), due.getSimpleName());
        due(what + " changes nothing", Picture.of(x), before);
    }

    void noSuchPlace(String what, BackwardSearch x, Runnable call) {
        refused(what, x, IndexOutOfBoundsException.class, call);
    }

    void badArgument(String what, BackwardSearch x, Runnable call) {
        refused(what, x, IllegalArgumentException.class, call);
    }

    void badState(String what, BackwardSearch x, Runnable call) {
        refused(what, x, IllegalStateException.class, call);
    }

    /** The call is recorded, just once, and undoing it brings back all that it altered. */
    void recorded(String what, BackwardSearch x, Runnable call) {
        String before = Picture.ofState(x);
        int count = x.undoCount();
        call.run();
        due(what + " is a change", x.undoCount(), Math.min(count + 1, 6));
        x.undo();
        due(what + " undone", Picture.ofState(x), before);
    }

    private static String outcome(Runnable call) {
        try {
            call.run();
            return "nothing";
        } catch (RuntimeException thrown) {
            return thrown.getClass().getSimpleName();
        }
    }

    void end() {
        System.out.println(name + ": " + made + " checks, " + wrong + " wrong");
        if (wrong > 0 || made == 0) {
            System.exit(1);
        }
    }
}
