import java.util.NoSuchElementException;

/** Promises 24 fault, 25 test. */
public final class FaultsTest {
    private static final Check CHECK = new Check();

    public static void main(String[] args) {
        linesAndCoilsAreNamed();
        theFirstIsNamed();
        faultsTouchNothingElse();
        wrongFaults();
        CHECK.end("FaultsTest");
    }

    private static void linesAndCoilsAreNamed() {
        OrganConsole x = Check.stops(48);
        for (int how = 1; how <= 2; how++) {
            for (int line = 0; line < 40; line++) {
                CHECK.due("was sound", 0, x.fault(0, line, how));
                CHECK.due("test", 2 * line + how, x.test());
                CHECK.due("was faulty", how, x.fault(0, line, 0));
            }
            for (int stop = 0; stop < 48; stop++) {
                CHECK.due("was sound", 0, x.fault(1, stop, how));
                CHECK.due("test", 100 + 2 * stop + how, x.test());
                CHECK.due("was faulty", how, x.fault(1, stop, 0));
            }
            CHECK.due("all is sound", 0, x.test());
        }
        x.fault(0, 3, 1);
        CHECK.due("open, then shorted", 1, x.fault(0, 3, 2));
        CHECK.due("shorted, and so again", 2, x.fault(0, 3, 2));
        CHECK.due("test", 8, x.test());
    }

    private static void theFirstIsNamed() {
        OrganConsole x = Check.stops(3);
        x.fault(1, 2, 1);
        CHECK.due("the last coil", 105, x.test());
        x.fault(1, 0, 2);
        CHECK.due("the first coil", 102, x.test());
        x.fault(0, 39, 1);
        CHECK.due("lines come first", 79, x.test());
        x.fault(0, 0, 2);
        CHECK.due("the first line", 2, x.test());
        x.fault(0, 0, 0);
        x.fault(0, 39, 0);
        x.fault(1, 0, 0);
        CHECK.due("what is left", 105, x.test());
        x.stop(0, 0, 0, 96);
        CHECK.due("a new stop's coil is sound", 0, x.fault(1, 3, 0));
    }

    private static void faultsTouchNothingElse() {
        OrganConsole x = Check.stops(2);
        x.key(0, 7, true);
        x.knob(0, true);
        for (int line = 0; line < 40; line++) {
            x.fault(0, line, 1);
        }
        x.fault(1, 0, 2);
        CHECK.yes("the pipe is open still", x.pipe(0, 7));
        CHECK.due("the knob stays", 1, x.about(0, 0));
    }

    private static void wrongFaults() {
        OrganConsole x = Check.stops(2);
        int[][] missing = {{-1, 0}, {2, 0}, {Integer.MIN_VALUE, 0}, {Integer.MAX_VALUE, 0}, {0, -1}, {0, 40},
            {0, Integer.MAX_VALUE}, {1, -1}, {1, 2}, {1, 47}, {1, 48}, {1, Integer.MIN_VALUE}};
        for (int[] m : missing) {
            String told = "fault " + m[0] + " " + m[1];
            CHECK.refused(x, told, NoSuchElementException.class, () -> x.fault(m[0], m[1], 1));
            CHECK.refused(x, told + ", no such state", NoSuchElementException.class, () -> x.fault(m[0], m[1], 3));
        }
        int[] states = {-1, 3, Integer.MIN_VALUE, Integer.MAX_VALUE};
        for (int how : states) {
            CHECK.refused(x, "line to " + how, IllegalArgumentException.class, () -> x.fault(0, 0, how));
            CHECK.refused(x, "coil to " + how, IllegalArgumentException.class, () -> x.fault(1, 1, how));
        }
    }
}
