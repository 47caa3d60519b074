import java.util.NoSuchElementException;

/** Promises 2 stop, 3 coupler, 4 key, 6 tab, 19 pipe, and the pipes and notes of 18 about and 26 count. */
public final class KeysTest {
    private static final Check CHECK = new Check();
    private static final int[] FAR = {Integer.MIN_VALUE, -1, 5, Integer.MAX_VALUE};

    public static void main(String[] args) {
        stopsAreNumbered();
        wrongStops();
        couplersAreNumbered();
        wrongCouplers();
        keysGoDownAndUp();
        wrongKeys();
        tabsGoOnAndOff();
        pipesOfShiftAndCompass();
        couplersDoNotCoupleThrough();
        notesBelowZeroAndAboveTheKeys();
        pipesFarOutside();
        twoKeysReachOneNote();
        eachKeyOpensItsOwnPipe();
        aNarrowCompass();
        manyPipes();
        CHECK.end("KeysTest");
    }

    private static void stopsAreNumbered() {
        OrganConsole x = new OrganConsole();
        CHECK.due("stop at the edges", 0, x.stop(0, -24, 0, 0));
        CHECK.due("stop at the edges", 1, x.stop(4, 24, 96, 96));
        CHECK.due("knob of a new stop", 0, x.about(0, 0));
        for (int i = 2; i < 48; i++) {
            CHECK.due("stop", i, x.stop(i % 5, 0, 0, 96));
        }
        CHECK.due("count 0", 48, x.count(0));
        CHECK.refused(x, "a 49th stop", IllegalStateException.class, () -> x.stop(0, 0, 0, 96));
        CHECK.refused(x, "a 49th stop, bad shift", IllegalArgumentException.class, () -> x.stop(0, 25, 0, 96));
        CHECK.refused(x, "a 49th stop, bad division", NoSuchElementException.class, () -> x.stop(5, 25, 0, 96));
        CHECK.yes("the last stop's knob", x.knob(47, true));
        CHECK.due("the last stop's knob", 1, x.about(47, 0));
    }

    private static void wrongStops() {
        OrganConsole x = new OrganConsole();
        for (int far : FAR) {
            CHECK.refused(x, "stop of division " + far, NoSuchElementException.class, () -> x.stop(far, 99, 5, 4));
        }
        int[][] bad = {{-25, 0, 96}, {25, 0, 96}, {Integer.MIN_VALUE, 0, 96}, {Integer.MAX_VALUE, 0, 96},
            {0, -1, 96}, {0, 0, 97}, {0, 5, 4}, {0, 97, 97}, {0, -2, -1}, {0, Integer.MIN_VALUE, Integer.MAX_VALUE}};
        for (int[] b : bad) {
            CHECK.refused(x, "stop(0, " + b[0] + ", " + b[1] + ", " + b[2] + ")", IllegalArgumentException.class,
                () -> x.stop(0, b[0], b[1], b[2]));
        }
        CHECK.due("the first right stop", 0, x.stop(0, 24, 0, 96));
    }

    private static void couplersAreNumbered() {
        OrganConsole x = new OrganConsole();
        for (int i = 0; i < 16; i++) {
            CHECK.due("coupler", i, x.coupler(i % 5, (i + 1) % 5, i % 2 == 0 ? -24 : 24));
        }
        CHECK.due("count 1", 16, x.count(1));
        CHECK.refused(x, "a 17th coupler", IllegalStateException.class, () -> x.coupler(0, 1, 0));
        CHECK.refused(x, "a 17th coupler, bad shift", IllegalArgumentException.class, () -> x.coupler(0, 1, 25));
        CHECK.refused(x, "a 17th coupler, bad division", NoSuchElementException.class, () -> x.coupler(0, 5, 25));
    }

    private static void wrongCouplers() {
        OrganConsole x = new OrganConsole();
        for (int far : FAR) {
            CHECK.refused(x, "coupler from " + far, NoSuchElementException.class, () -> x.coupler(far, 0, 99));
            CHECK.refused(x, "coupler to " + far, NoSuchElementException.class, () -> x.coupler(0, far, 99));
        }
        int[] shifts = {-25, 25, Integer.MIN_VALUE, Integer.MAX_VALUE};
        for (int shift : shifts) {
            CHECK.refused(x, "coupler by " + shift, IllegalArgumentException.class, () -> x.coupler(0, 1, shift));
        }
        CHECK.due("the first right coupler", 0, x.coupler(2, 2, 12));
    }

    private static void keysGoDownAndUp() {
        OrganConsole x = new OrganConsole();
        for (int keyboard = 0; keyboard < 5; keyboard++) {
            int last = keyboard == 4 ? 31 : 60;
            CHECK.yes("lowest key down", x.key(keyboard, 0, true));
            CHECK.no("lowest key down again", x.key(keyboard, 0, true));
            CHECK.yes("highest key down", x.key(keyboard, last, true));
            CHECK.due("count 2", 2 + 2 * keyboard, x.count(2));
        }
        CHECK.yes("key up", x.key(3, 60, false));
        CHECK.no("key up again", x.key(3, 60, false));
        CHECK.no("a key that never was down", x.key(3, 59, false));
        CHECK.due("count 2", 9, x.count(2));
    }

    private static void wrongKeys() {
        OrganConsole x = new OrganConsole();
        x.key(0, 3, true);
        for (int far : FAR) {
            CHECK.refused(x, "key of keyboard " + far, NoSuchElementException.class, () -> x.key(far, 0, true));
        }
        int[][] bad = {{0, 61}, {3, 61}, {4, 32}, {4, 60}, {0, -1}, {4, -1}, {1, 64}, {2, Integer.MAX_VALUE}, {2, Integer.MIN_VALUE}};
        for (int[] b : bad) {
            CHECK.refused(x, "key " + b[0] + " " + b[1], NoSuchElementException.class, () -> x.key(b[0], b[1], true));
        }
    }

    private static void tabsGoOnAndOff() {
        OrganConsole x = new OrganConsole();
        CHECK.refused(x, "tab without couplers", NoSuchElementException.class, () -> x.tab(0, true));
        x.coupler(0, 1, 0);
        x.coupler(0, 2, 0);
        x.key(0, 10, true);
        CHECK.due("a coupler is off at first", 1, x.count(9));
        CHECK.no("off at first", x.tab(1, false));
        CHECK.yes("on", x.tab(1, true));
        CHECK.no("on again", x.tab(1, true));
        CHECK.due("notes with one on", 2, x.count(9));
        CHECK.yes("the other on", x.tab(0, true));
        CHECK.due("notes with both on", 3, x.count(9));
        CHECK.yes("off", x.tab(1, false));
        CHECK.due("notes with one off", 2, x.count(9));
        int[] bad = {-1, 2, 16, Integer.MAX_VALUE, Integer.MIN_VALUE};
        for (int coupler : bad) {
            CHECK.refused(x, "tab " + coupler, NoSuchElementException.class, () -> x.tab(coupler, true));
        }
    }

    private static void pipesOfShiftAndCompass() {
        OrganConsole x = new OrganConsole();
        x.stop(0, 12, 20, 40);
        x.stop(1, 12, 20, 40);
        x.key(0, 7, true);
        x.key(0, 8, true);
        x.key(0, 28, true);
        x.key(0, 29, true);
        CHECK.no("a stop that does not speak", x.pipe(0, 20));
        CHECK.due("open pipes of a stop that does not speak", 0, x.about(0, 3));
        x.knob(0, true);
        x.knob(1, true);
        CHECK.no("below the compass", x.pipe(0, 19));
        CHECK.yes("the lowest pipe", x.pipe(0, 20));
        CHECK.no("a pipe that no key reaches", x.pipe(0, 21));
        CHECK.yes("the highest pipe", x.pipe(0, 40));
        CHECK.no("above the compass", x.pipe(0, 41));
        CHECK.due("open pipes", 2, x.about(0, 3));
        CHECK.no("another division", x.pipe(1, 20));
        CHECK.due("open pipes of another division", 0, x.about(1, 3));
        CHECK.due("open pipes of all", 2, x.count(8));
        CHECK.due("notes", 4, x.count(9));
        x.key(0, 8, false);
        CHECK.no("the key is up", x.pipe(0, 20));
    }

    private static void couplersDoNotCoupleThrough() {
        OrganConsole x = new OrganConsole();
        for (int d = 0; d < 3; d++) {
            x.stop(d, 0, 0, 96);
            x.knob(d, true);
        }
        x.coupler(0, 1, 2);
        x.coupler(1, 2, 3);
        x.coupler(1, 1, 12);
        for (int c = 0; c < 3; c++) {
            x.tab(c, true);
        }
        x.key(0, 30, true);
        CHECK.yes("its own division", x.pipe(0, 30));
        CHECK.yes("coupled", x.pipe(1, 32));
        CHECK.no("coupled, but not by the shift", x.pipe(1, 30));
        CHECK.no("through a second coupler", x.pipe(2, 35));
        CHECK.no("through a coupler to itself", x.pipe(1, 44));
        CHECK.due("open pipes", 2, x.count(8));
        x.key(1, 30, true);
        CHECK.yes("by the coupler to itself", x.pipe(1, 42));
        CHECK.yes("by the second coupler", x.pipe(2, 33));
    }

    private static void notesBelowZeroAndAboveTheKeys() {
        OrganConsole x = new OrganConsole();
        x.stop(4, 24, 0, 96);
        x.stop(4, 12, 0, 96);
        x.stop(4, -24, 0, 96);
        x.coupler(0, 4, -24);
        x.coupler(0, 4, 24);
        x.full(true);
        x.tab(0, true);
        x.tab(1, true);
        x.key(0, 0, true);
        CHECK.yes("note -24, shifted back to 0", x.pipe(0, 0));
        CHECK.yes("note 24, shifted to 48", x.pipe(0, 48));
        CHECK.no("note -24, shifted to -12", x.pipe(1, -12));
        CHECK.due("open pipes of shift 24", 2, x.about(0, 3));
        CHECK.due("open pipes of shift 12", 1, x.about(1, 3));
        CHECK.due("notes below 0 do not count", 2, x.count(9));
        x.key(0, 0, false);
        x.key(0, 60, true);
        CHECK.yes("note 84 of the pedal's division", x.pipe(2, 60));
        CHECK.no("note 84 shifted beyond the compass", x.pipe(0, 108));
        CHECK.yes("note 36 of the pedal's division", x.pipe(1, 48));
        CHECK.yes("note 84 shifted to 96", x.pipe(1, 96));
        CHECK.due("notes 60, 36 and 84", 3, x.count(9));
    }

    private static void pipesFarOutside() {
        OrganConsole x = new OrganConsole();
        x.stop(0, -24, 0, 96);
        x.stop(0, 24, 0, 96);
        x.knob(0, true);
        x.knob(1, true);
        for (int k = 0; k <= 60; k++) {
            x.key(0, k, true);
        }
        int[] far = {-1, -24, 97, 120, Integer.MIN_VALUE, Integer.MIN_VALUE + 24, Integer.MAX_VALUE, Integer.MAX_VALUE - 23};
        for (int n : far) {
            CHECK.no("pipe " + n, x.pipe(0, n));
            CHECK.no("pipe " + n, x.pipe(1, n));
        }
        CHECK.due("open pipes of shift -24", 37, x.about(0, 3));
        CHECK.due("open pipes of shift 24", 61, x.about(1, 3));
        int[] stops = {-1, 2, 48, 64, Integer.MAX_VALUE, Integer.MIN_VALUE};
        for (int stop : stops) {
            CHECK.refused(x, "pipe of stop " + stop, NoSuchElementException.class, () -> x.pipe(stop, 0));
        }
    }

    private static void twoKeysReachOneNote() {
        OrganConsole x = new OrganConsole();
        x.stop(1, 0, 0, 96);
        x.knob(0, true);
        x.coupler(0, 1, 5);
        x.tab(0, true);
        x.key(0, 20, true);
        x.key(1, 25, true);
        CHECK.due("one pipe for two keys", 1, x.count(8));
        CHECK.due("two notes: 20 of division 0, 25 of division 1", 2, x.count(9));
        x.key(1, 25, false);
        CHECK.yes("the other key holds it", x.pipe(0, 25));
        x.key(0, 20, false);
        CHECK.no("none holds it", x.pipe(0, 25));
    }

    private static void eachKeyOpensItsOwnPipe() {
        for (int shift = -24; shift <= 24; shift += 12) {
            for (int k = 0; k <= 60; k++) {
                OrganConsole x = new OrganConsole();
                x.stop(2, 7, 0, 96);
                x.knob(0, true);
                x.coupler(3, 2, shift);
                x.tab(0, true);
                x.key(3, k, true);
                for (int n = 0; n <= 96; n++) {
                    CHECK.due("key " + k + " by " + shift + ", pipe " + n, n == k + shift + 7 ? 1 : 0, x.pipe(0, n) ? 1 : 0);
                }
            }
        }
    }

    private static void aNarrowCompass() {
        OrganConsole x = new OrganConsole();
        x.coupler(0, 0, -24);
        x.coupler(0, 0, 24);
        x.tab(0, true);
        x.tab(1, true);
        for (int k = 0; k <= 60; k++) {
            x.key(0, k, true);
        }
        int[][] compasses = {{0, 0}, {0, 39}, {39, 39}, {39, 40}, {40, 40}, {40, 84}, {83, 85}, {84, 84}, {85, 96}, {96, 96}};
        int[] open = {1, 40, 1, 2, 1, 45, 2, 1, 0, 0};
        for (int i = 0; i < compasses.length; i++) {
            x.stop(0, 0, compasses[i][0], compasses[i][1]);
            x.knob(i, true);
            CHECK.due("open pipes of " + compasses[i][0] + " .. " + compasses[i][1], open[i], x.about(i, 3));
        }
    }

    private static void manyPipes() {
        OrganConsole x = new OrganConsole();
        for (int i = 0; i < 48; i++) {
            x.stop(i % 5, 0, 0, 96);
        }
        x.full(true);
        for (int keyboard = 0; keyboard < 5; keyboard++) {
            x.coupler(keyboard, keyboard, 24);
            x.tab(keyboard, true);
            for (int k = 0; k < (keyboard == 4 ? 32 : 61); k++) {
                x.key(keyboard, k, true);
            }
        }
        CHECK.due("keys", 276, x.count(2));
        CHECK.due("notes", 4 * 85 + 56, x.count(9));
        CHECK.due("pipes", 39 * 85 + 9 * 56, x.count(8));
    }
}
