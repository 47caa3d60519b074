import java.util.NoSuchElementException;

/** Promises 24 fault, 25 test. */
public final class FaultsTest {
    private static final Check CHECK = new Check();

    public static void main(String[] args) {
        allIsSoundAtFirst();
        faultsTellWhatWasThere();
        everyLineIsNamed();
        everyCoilIsNamed();
        linesComeInOrder();
        coilsComeInOrderBehindTheLines();
        aNewStopsCoilIsSound();
        linesTouchNothingElse();
        kindsThatAreNot();
        linesThatAreNot();
        coilsThatAreNot();
        statesThatAreNot();
        CHECK.end("FaultsTest");
    }

    // "0 if all is sound"
    private static void allIsSoundAtFirst() {
        CHECK.due("without stops", 0, new Console().test());
        Console x = Scenes.stops(48);
        CHECK.due("with 48 stops", 0, x.test());
        for (int line = 0; line < 40; line++) {
            CHECK.due("line " + line, 0, x.fault(0, line, 0));
        }
        for (int stop = 0; stop < 48; stop++) {
            CHECK.due("coil " + stop, 0, x.fault(1, stop, 0));
        }
    }

    // "are sound (0), open (1) or shorted (2)"; "comes to be so: what it was"
    private static void faultsTellWhatWasThere() {
        for (int kind = 0; kind < 2; kind++) {
            for (int from = 0; from < 3; from++) {
                for (int to = 0; to < 3; to++) {
                    Console x = Scenes.stops(3);
                    CHECK.due("sound", 0, x.fault(kind, 1, from));
                    CHECK.due("what it was", from, x.fault(kind, 1, to));
                    CHECK.due("what it is", to, x.fault(kind, 1, to));
                    CHECK.due("test", to == 0 ? 0 : 100 * kind + 2 + to, x.test());
                    CHECK.due("of the other kind", 0, x.fault(1 - kind, 1, 0));
                    CHECK.due("the one ahead", 0, x.fault(kind, 0, 0));
                    CHECK.due("the one behind", 0, x.fault(kind, 2, 0));
                }
            }
        }
    }

    // "LINES 0 .. 39 of the wiring"; "of the first thing that is not, 2 * its line + how"
    private static void everyLineIsNamed() {
        for (int how = 1; how <= 2; how++) {
            Console x = new Console();
            for (int line = 0; line < 40; line++) {
                CHECK.due("was sound", 0, x.fault(0, line, how));
                CHECK.due("test of line " + line, 2 * line + how, x.test());
                CHECK.due("was faulty", how, x.fault(0, line, 0));
            }
            CHECK.due("all is sound", 0, x.test());
        }
    }

    // "or 100 + 2 * its stop + how"
    private static void everyCoilIsNamed() {
        for (int how = 1; how <= 2; how++) {
            Console x = Scenes.stops(48);
            for (int stop = 0; stop < 48; stop++) {
                CHECK.due("was sound", 0, x.fault(1, stop, how));
                CHECK.due("test of coil " + stop, 100 + 2 * stop + how, x.test());
                CHECK.due("was faulty", how, x.fault(1, stop, 0));
            }
            CHECK.due("all is sound", 0, x.test());
        }
    }

    // "THE TEST looks at the lines in order, then at the coils in order."
    private static void linesComeInOrder() {
        Console x = new Console();
        for (int line = 39; line >= 0; line--) {
            x.fault(0, line, 1 + line % 2);
            CHECK.due("test", 2 * line + 1 + line % 2, x.test());
        }
        for (int line = 0; line < 39; line++) {
            x.fault(0, line, 0);
            CHECK.due("test", 2 * (line + 1) + 1 + (line + 1) % 2, x.test());
        }
    }

    private static void coilsComeInOrderBehindTheLines() {
        Console x = Scenes.stops(48);
        for (int stop = 47; stop >= 0; stop--) {
            x.fault(1, stop, 1 + stop % 2);
            CHECK.due("test", 100 + 2 * stop + 1 + stop % 2, x.test());
        }
        x.fault(0, 39, 2);
        CHECK.due("the last line comes ahead of the first coil", 80, x.test());
        x.fault(0, 0, 1);
        CHECK.due("the first line", 1, x.test());
        x.fault(0, 0, 0);
        x.fault(0, 39, 0);
        x.fault(1, 0, 0);
        CHECK.due("the second coil", 104, x.test());
    }

    private static void aNewStopsCoilIsSound() {
        Console x = Scenes.stops(2);
        x.fault(1, 1, 2);
        x.stop(0, 0, 0, 96);
        CHECK.due("a new stop's coil", 0, x.fault(1, 2, 1));
        CHECK.due("test", 104, x.test());
    }

    private static void linesTouchNothingElse() {
        Console x = Scenes.stops(2);
        x.key(0, 7, true);
        x.knob(0, true);
        x.press(0, 0);
        for (int line = 0; line < 40; line++) {
            x.fault(0, line, 1 + line % 2);
        }
        CHECK.yes("the pipe is open still", x.pipe(0, 7));
        CHECK.due("the pull goes on", 3, x.about(0, 2));
        CHECK.due("the magnet pulls", 1, x.tick(3));
        x.knob(0, true);
        x.fault(1, 0, 2);
        CHECK.due("a coil moves no knob", 1, x.about(0, 0));
        CHECK.yes("the pipe is open still", x.pipe(0, 7));
    }

    // "NoSuchElementException: kind, line or stop."
    private static void kindsThatAreNot() {
        for (Console x : Scenes.all()) {
            for (int kind : Check.outside(0, 1)) {
                refusedAnyState(x, kind, 0);
                refusedAnyState(x, kind, 40);
            }
        }
    }

    private static void linesThatAreNot() {
        for (Console x : Scenes.all()) {
            for (int line : Check.outside(0, 39)) {
                refusedAnyState(x, 0, line);
            }
        }
    }

    private static void coilsThatAreNot() {
        for (Console x : Scenes.all()) {
            for (int stop : Check.outside(0, x.twin().count(0) - 1)) {
                refusedAnyState(x, 1, stop);
            }
        }
    }

    private static void refusedAnyState(Console x, int kind, int k) {
        for (int how : new int[] {-1, 0, 2, 3}) {
            String told = "fault of kind " + kind + " number " + k + " to " + how;
            CHECK.refused(x, told, NoSuchElementException.class, c -> c.fault(kind, k, how));
        }
    }

    // "IllegalArgumentException: how is not 0 .. 2."
    private static void statesThatAreNot() {
        for (Console x : new Console[] {Scenes.busy(), Scenes.full()}) {
            int last = x.twin().count(0) - 1;
            for (int how : Check.outside(0, 2)) {
                CHECK.refused(x, "the first line to " + how, IllegalArgumentException.class, c -> c.fault(0, 0, how));
                CHECK.refused(x, "the last line to " + how, IllegalArgumentException.class, c -> c.fault(0, 39, how));
                CHECK.refused(x, "the first coil to " + how, IllegalArgumentException.class, c -> c.fault(1, 0, how));
                CHECK.refused(x, "the last coil to " + how, IllegalArgumentException.class, c -> c.fault(1, last, how));
            }
        }
    }
}
