import java.util.function.Supplier;

/** What the tests of the project share: counting answers that are not due, and calls that must be refused. */
final class Check {
    private static final int[] PISTONS = {16, 25};

    private int asked = 0;
    private int wrong = 0;

    /** A console with so many stops, stop s of division s % 5, each of all pipes. */
    static OrganConsole stops(int size) {
        OrganConsole x = new OrganConsole();
        for (int s = 0; s < size; s++) {
            x.stop(s % 5, 0, 0, 96);
        }
        return x;
    }

    void due(String call, long want, long got) {
        asked++;
        if (got != want) {
            wrong++;
            System.out.println(call + " answered " + got + ", due is " + want);
        }
    }

    void yes(String call, boolean got) {
        due(call, 1, got ? 1 : 0);
    }

    void no(String call, boolean got) {
        due(call, 0, got ? 1 : 0);
    }

    void same(String call, String want, String got) {
        asked++;
        if (!want.equals(got)) {
            wrong++;
            System.out.println(call + " answered " + got + ", due is " + want);
        }
    }

    /** The call must throw just this exception, and leave all that can be asked as it was. */
    void refused(OrganConsole x, String call, Class<? extends RuntimeException> kind, Runnable action) {
        String before = looks(x);
        same(call, kind.getSimpleName(), outcome(() -> {
            action.run();
            return "an answer";
        }));
        same(call + " must change nothing", before, looks(x));
    }

    static String outcome(Supplier<Object> call) {
        try {
            return String.valueOf(call.get());
        } catch (RuntimeException e) {
            return e.getClass().getSimpleName();
        }
    }

    /**
     * All that calls which change nothing tell of a console. These are more than the 512 calls that are promised;
     * the program keeps no count of calls, so a test may ask them.
     */
    static String looks(OrganConsole x) {
        StringBuilder all = new StringBuilder();
        for (int what = 0; what <= 10; what++) {
            all.append(x.count(what)).append(' ');
        }
        for (int stop = 0; stop < x.count(0); stop++) {
            for (int what = 0; what <= 3; what++) {
                all.append(x.about(stop, what)).append(' ');
            }
            for (int n = 0; n <= 96; n++) {
                all.append(x.pipe(stop, n) ? 'o' : '.');
            }
        }
        for (int kind = 0; kind <= 2; kind++) {
            int size = kind == 2 ? x.count(5) : PISTONS[kind];
            for (int p = 0; p < size; p++) {
                all.append(x.lamp(kind, p) ? '*' : '-');
            }
        }
        return all.append(' ').append(x.test()).toString();
    }

    /** Ends the run: exit code 1 if an answer was not due. */
    void end(String name) {
        System.out.println(name + ": " + asked + " answers, " + wrong + " wrong");
        if (wrong != 0 || asked == 0) {
            System.exit(1);
        }
    }
}
