import java.util.NoSuchElementException;

/** Promises 2 stop, 3 coupler, 4 key, 6 tab, 19 pipe: which notes keys reach, and which pipes open. */
public final class KeysTest {
    private static final Check CHECK = new Check();

    public static void main(String[] args) {
        stopsAreNumberedUpToFortyEight();
        theLastStopIsAStopLikeOthers();
        stopsOfNoDivision();
        stopsOfAWrongShift();
        stopsOfAWrongCompass();
        aStopTooMany();
        couplersAreNumberedUpToSixteen();
        theLastCouplerIsACouplerLikeOthers();
        couplersOfNoKeyboardOrDivision();
        couplersOfAWrongShift();
        aCouplerTooMany();
        everyKeyGoesDownAndUp();
        keysTellWhetherTheyWereNotSo();
        keysThatAreNot();
        tabsTellWhetherTheyWereNotSo();
        tabsThatAreNot();
        keysReachTheirOwnDivision();
        couplersReachAnotherDivision();
        couplersDoNotCoupleThrough();
        couplersReachBelowTheLowestNote();
        couplersReachAboveTheHighestKey();
        twoKeysReachOneNote();
        aStopSpeaksForThreeReasons();
        pipesLieInTheCompass();
        theNarrowestCompass();
        pipesAreShifted();
        eachKeyOpensItsOwnPipe();
        pipesFarOutsideAreNotOpen();
        pipesOfNoStop();
        CHECK.end("KeysTest");
    }

    // "STOPS are 0, 1, .. , at most 48"; "A stop, its knob in: its number."
    private static void stopsAreNumberedUpToFortyEight() {
        Console x = new Console();
        for (int s = 0; s < 48; s++) {
            CHECK.due("stops ahead of one", s, x.count(0));
            CHECK.due("stop", s, x.stop(s % 5, 24 - s, s, 96 - s));
            CHECK.due("knob of a new stop", 0, x.about(s, 0));
            CHECK.due("pull of a new stop", 0, x.about(s, 2));
        }
        CHECK.due("stops", 48, x.count(0));
        CHECK.due("knobs", 0, x.count(3));
    }

    private static void theLastStopIsAStopLikeOthers() {
        Console x = Scenes.stops(48);
        CHECK.yes("knob", x.knob(47, true));
        CHECK.due("about", 1, x.about(47, 0));
        CHECK.due("it alone", 1, x.count(3));
        CHECK.due("set", 1, x.set(0, 0));
        CHECK.yes("knob", x.knob(47, false));
        CHECK.due("press", 1, x.press(0, 0));
        CHECK.due("tick", 1, x.tick(3));
        CHECK.due("about", 1, x.about(47, 0));
        x.key(2, 9, true);
        CHECK.yes("pipe", x.pipe(47, 9));
        x.knob(47, false);
        CHECK.yes("assign", x.assign(15, 47, true));
        x.pedal(15);
        CHECK.due("it speaks", 1, x.about(47, 1));
        CHECK.due("the one ahead of it does not", 0, x.about(46, 1));
        CHECK.due("fault", 0, x.fault(1, 47, 2));
        CHECK.due("test", 196, x.test());
    }

    // "NoSuchElementException: division."
    private static void stopsOfNoDivision() {
        for (Console x : Scenes.all()) {
            for (int division : Check.outside(0, 4)) {
                String told = "stop of division " + division;
                CHECK.refused(x, told, NoSuchElementException.class, c -> c.stop(division, 0, 0, 96));
                CHECK.refused(x, told + ", wrong shift", NoSuchElementException.class, c -> c.stop(division, 25, 0, 96));
                CHECK.refused(x, told + ", wrong compass", NoSuchElementException.class, c -> c.stop(division, 0, 1, 0));
            }
        }
        Console x = new Console();
        CHECK.due("stop of the first division", 0, x.stop(0, 0, 0, 96));
        CHECK.due("stop of the last division", 1, x.stop(4, 0, 0, 96));
    }

    // "IllegalArgumentException: shift is not -24 .. 24"
    private static void stopsOfAWrongShift() {
        for (Console x : Scenes.all()) {
            for (int shift : Check.outside(-24, 24)) {
                CHECK.refused(x, "stop by " + shift, IllegalArgumentException.class, c -> c.stop(0, shift, 0, 96));
            }
        }
        Console x = new Console();
        CHECK.due("stop by -24", 0, x.stop(0, -24, 0, 96));
        CHECK.due("stop by 24", 1, x.stop(0, 24, 0, 96));
    }

    // "or low and high are not 0 <= low <= high <= 96"
    private static void stopsOfAWrongCompass() {
        int least = Integer.MIN_VALUE;
        int most = Integer.MAX_VALUE;
        int[][] bad = {{-1, 96}, {-1, 0}, {-1, -1}, {-2, -1}, {0, 97}, {96, 97}, {97, 97}, {97, 96}, {1, 0}, {96, 95},
            {96, 0}, {0, -1}, {least, 96}, {least, least}, {least, most}, {0, most}, {most, most}, {most, 96},
            {most, least}, {0, least}};
        for (Console x : Scenes.all()) {
            for (int[] b : bad) {
                String told = "stop of compass " + b[0] + " .. " + b[1];
                CHECK.refused(x, told, IllegalArgumentException.class, c -> c.stop(0, 0, b[0], b[1]));
            }
        }
        int[][] good = {{0, 0}, {0, 96}, {96, 96}, {0, 1}, {95, 96}, {48, 48}};
        Console x = new Console();
        for (int i = 0; i < good.length; i++) {
            CHECK.due("stop of a compass", i, x.stop(0, 0, good[i][0], good[i][1]));
        }
    }

    // "IllegalStateException: there are 48."
    private static void aStopTooMany() {
        Console x = Scenes.full();
        for (int division = 0; division < 5; division++) {
            int d = division;
            CHECK.refused(x, "a 49th stop", IllegalStateException.class, c -> c.stop(d, 0, 0, 96));
        }
        CHECK.refused(x, "a 49th stop, all at the edges", IllegalStateException.class, c -> c.stop(4, -24, 96, 96));
        Console y = Scenes.stops(47);
        CHECK.due("the 48th stop", 47, y.stop(0, 0, 0, 96));
        CHECK.refused(y, "a 49th stop", IllegalStateException.class, c -> c.stop(0, 0, 0, 96));
    }

    // "COUPLERS are 0, 1, .. , at most 16"; "A coupler: its number."
    private static void couplersAreNumberedUpToSixteen() {
        Console x = new Console();
        for (int c = 0; c < 16; c++) {
            CHECK.due("couplers ahead of one", c, x.count(1));
            CHECK.due("coupler", c, x.coupler(c % 5, (c + 1) % 5, c % 2 == 0 ? -24 : 24));
            CHECK.no("it is off", x.tab(c, false));
        }
        CHECK.due("couplers", 16, x.count(1));
    }

    private static void theLastCouplerIsACouplerLikeOthers() {
        Console x = new Console();
        for (int c = 0; c < 16; c++) {
            x.coupler(0, 1, c);
        }
        x.stop(1, 0, 0, 96);
        x.knob(0, true);
        x.key(0, 10, true);
        CHECK.due("no coupler is on", 0, x.about(0, 3));
        CHECK.yes("the last is on", x.tab(15, true));
        CHECK.yes("pipe", x.pipe(0, 25));
        CHECK.due("one pipe", 1, x.about(0, 3));
        for (int c = 0; c < 15; c++) {
            x.tab(c, true);
        }
        CHECK.due("sixteen pipes by sixteen couplers", 16, x.about(0, 3));
        CHECK.yes("off", x.tab(15, false));
        CHECK.no("pipe", x.pipe(0, 25));
        CHECK.due("fifteen pipes", 15, x.about(0, 3));
    }

    // "NoSuchElementException: keyboard or division."
    private static void couplersOfNoKeyboardOrDivision() {
        for (Console x : Scenes.all()) {
            for (int far : Check.outside(0, 4)) {
                CHECK.refused(x, "coupler from " + far, NoSuchElementException.class, c -> c.coupler(far, 0, 0));
                CHECK.refused(x, "coupler to " + far, NoSuchElementException.class, c -> c.coupler(0, far, 0));
                CHECK.refused(x, "coupler from and to " + far, NoSuchElementException.class, c -> c.coupler(far, far, 0));
                CHECK.refused(x, "coupler from " + far + ", wrong shift", NoSuchElementException.class, c -> c.coupler(far, 4, 25));
                CHECK.refused(x, "coupler to " + far + ", wrong shift", NoSuchElementException.class, c -> c.coupler(4, far, -25));
            }
        }
        Console x = new Console();
        CHECK.due("coupler from the first to the last", 0, x.coupler(0, 4, 0));
        CHECK.due("coupler from the last to the first", 1, x.coupler(4, 0, 0));
        CHECK.due("coupler to the keyboard's own division", 2, x.coupler(4, 4, 12));
    }

    // "IllegalArgumentException: shift is not -24 .. 24."
    private static void couplersOfAWrongShift() {
        for (Console x : Scenes.all()) {
            for (int shift : Check.outside(-24, 24)) {
                CHECK.refused(x, "coupler by " + shift, IllegalArgumentException.class, c -> c.coupler(0, 1, shift));
            }
        }
        Console x = new Console();
        CHECK.due("coupler by -24", 0, x.coupler(0, 1, -24));
        CHECK.due("coupler by 24", 1, x.coupler(0, 1, 24));
    }

    // "IllegalStateException: there are 16."
    private static void aCouplerTooMany() {
        Console x = Scenes.full();
        CHECK.refused(x, "a 17th coupler", IllegalStateException.class, c -> c.coupler(0, 1, 0));
        CHECK.refused(x, "a 17th coupler, all at the edges", IllegalStateException.class, c -> c.coupler(4, 4, -24));
        Console y = new Console();
        for (int c = 0; c < 15; c++) {
            y.coupler(0, 1, c);
        }
        CHECK.due("the 16th coupler", 15, y.coupler(0, 1, 15));
        CHECK.refused(y, "a 17th coupler", IllegalStateException.class, c -> c.coupler(0, 1, 16));
    }

    // "KEYBOARDS are 0 .. 4 .. 0 .. 3 have keys 0 .. 60, 4 has 0 .. 31."
    private static void everyKeyGoesDownAndUp() {
        for (int keyboard = 0; keyboard < 5; keyboard++) {
            Console x = new Console();
            int keys = keyboard == 4 ? 32 : 61;
            for (int k = 0; k < keys; k++) {
                CHECK.yes("key " + k + " of keyboard " + keyboard + " down", x.key(keyboard, k, true));
                CHECK.due("keys down", k + 1, x.count(2));
            }
            for (int k = 0; k < keys; k++) {
                CHECK.yes("key " + k + " of keyboard " + keyboard + " up", x.key(keyboard, k, false));
                CHECK.due("keys down", keys - 1 - k, x.count(2));
            }
        }
    }

    // "A key is down, or up, from now on: whether it was not so."
    private static void keysTellWhetherTheyWereNotSo() {
        Console x = new Console();
        CHECK.no("up at first", x.key(3, 60, false));
        CHECK.yes("down", x.key(3, 60, true));
        CHECK.no("down again", x.key(3, 60, true));
        CHECK.no("the same key of another keyboard", x.key(2, 60, false));
        CHECK.no("the key beside it", x.key(3, 59, false));
        CHECK.due("keys down", 1, x.count(2));
        CHECK.yes("up", x.key(3, 60, false));
        CHECK.no("up again", x.key(3, 60, false));
        CHECK.due("keys down", 0, x.count(2));
    }

    private static void keysThatAreNot() {
        for (Console x : Scenes.all()) {
            for (int keyboard = 0; keyboard < 5; keyboard++) {
                int b = keyboard;
                for (int k : Check.outside(0, keyboard == 4 ? 31 : 60)) {
                    String told = "key " + k + " of keyboard " + keyboard;
                    CHECK.refused(x, told, NoSuchElementException.class, c -> c.key(b, k, true));
                    CHECK.refused(x, told + " up", NoSuchElementException.class, c -> c.key(b, k, false));
                }
            }
            for (int keyboard : Check.outside(0, 4)) {
                CHECK.refused(x, "key of keyboard " + keyboard, NoSuchElementException.class, c -> c.key(keyboard, 0, true));
                CHECK.refused(x, "no key of keyboard " + keyboard, NoSuchElementException.class, c -> c.key(keyboard, -1, true));
            }
            CHECK.refused(x, "key 60 of the pedalboard", NoSuchElementException.class, c -> c.key(4, 60, true));
            CHECK.refused(x, "key 64", NoSuchElementException.class, c -> c.key(1, 64, true));
        }
    }

    // "on or off (off at first)"; "A coupler is on, or off, from now on: whether it was not so."
    private static void tabsTellWhetherTheyWereNotSo() {
        Console x = new Console();
        x.coupler(0, 1, 0);
        x.coupler(0, 2, 0);
        x.key(0, 10, true);
        CHECK.due("off at first", 1, x.count(9));
        CHECK.no("off at first", x.tab(1, false));
        CHECK.yes("on", x.tab(1, true));
        CHECK.no("on again", x.tab(1, true));
        CHECK.due("notes with one on", 2, x.count(9));
        CHECK.yes("the other on", x.tab(0, true));
        CHECK.due("notes with both on", 3, x.count(9));
        CHECK.yes("off", x.tab(1, false));
        CHECK.no("off again", x.tab(1, false));
        CHECK.due("notes with one off", 2, x.count(9));
    }

    private static void tabsThatAreNot() {
        for (Console x : Scenes.all()) {
            for (int coupler : Check.outside(0, x.twin().count(1) - 1)) {
                CHECK.refused(x, "tab " + coupler + " on", NoSuchElementException.class, c -> c.tab(coupler, true));
                CHECK.refused(x, "tab " + coupler + " off", NoSuchElementException.class, c -> c.tab(coupler, false));
            }
        }
    }

    // "each with a DIVISION of the same number"; "A key k .. reaches note k of its own division"
    private static void keysReachTheirOwnDivision() {
        for (int keyboard = 0; keyboard < 5; keyboard++) {
            int last = keyboard == 4 ? 31 : 60;
            Console x = Scenes.stops(5);
            x.full(true);
            x.key(keyboard, 0, true);
            x.key(keyboard, last, true);
            for (int stop = 0; stop < 5; stop++) {
                CHECK.due("lowest pipe of stop " + stop, stop == keyboard ? 1 : 0, x.pipe(stop, 0) ? 1 : 0);
                CHECK.due("highest pipe of stop " + stop, stop == keyboard ? 1 : 0, x.pipe(stop, last) ? 1 : 0);
                CHECK.due("open pipes of stop " + stop, stop == keyboard ? 2 : 0, x.about(stop, 3));
            }
        }
    }

    // "and, by each coupler from that keyboard that is on, the note k + the coupler's shift of that one's division"
    private static void couplersReachAnotherDivision() {
        for (int from = 0; from < 5; from++) {
            for (int to = 0; to < 5; to++) {
                Console x = Scenes.stops(5);
                x.full(true);
                x.coupler(from, to, 7);
                x.key(from, 20, true);
                CHECK.due("the coupler is off", 1, x.count(8));
                x.tab(0, true);
                CHECK.yes("its own division", x.pipe(from, 20));
                CHECK.yes("the coupler's division", x.pipe(to, 27));
                CHECK.due("no more", 2, x.count(8));
                x.key(from, 20, false);
                x.key((from + 1) % 5, 20, true);
                CHECK.due("a coupler from another keyboard", 1, x.count(8));
            }
        }
    }

    // "(couplers do not couple through others)"
    private static void couplersDoNotCoupleThrough() {
        Console x = Scenes.stops(3);
        x.full(true);
        x.coupler(0, 1, 2);
        x.coupler(1, 2, 3);
        x.coupler(1, 1, 12);
        x.coupler(1, 0, -2);
        for (int c = 0; c < 4; c++) {
            x.tab(c, true);
        }
        x.key(0, 30, true);
        CHECK.yes("its own division", x.pipe(0, 30));
        CHECK.yes("coupled", x.pipe(1, 32));
        CHECK.no("coupled, but not by the shift", x.pipe(1, 30));
        CHECK.no("through a second coupler", x.pipe(2, 35));
        CHECK.no("through a coupler to its own division", x.pipe(1, 44));
        CHECK.due("open pipes", 2, x.count(8));
        x.key(1, 30, true);
        CHECK.yes("by the coupler to its own division", x.pipe(1, 42));
        CHECK.yes("by the second coupler", x.pipe(2, 33));
        CHECK.yes("by the coupler back", x.pipe(0, 28));
        CHECK.due("open pipes", 6, x.count(8));
    }

    // No bound of a note is told: one below 0 is reached, and a stop's shift may bring it to a pipe.
    private static void couplersReachBelowTheLowestNote() {
        Console x = new Console();
        x.stop(4, 24, 0, 96);
        x.stop(4, 23, 0, 96);
        x.stop(4, 0, 0, 96);
        x.stop(4, 24, 1, 96);
        x.full(true);
        x.coupler(0, 4, -24);
        x.tab(0, true);
        x.key(0, 0, true);
        CHECK.yes("note -24, shifted to pipe 0", x.pipe(0, 0));
        CHECK.no("note -24, shifted to -1", x.pipe(1, -1));
        CHECK.due("no pipe at -1", 0, x.about(1, 3));
        CHECK.due("no pipe at -24", 0, x.about(2, 3));
        CHECK.due("pipe 0 is not in the compass", 0, x.about(3, 3));
        CHECK.due("one pipe", 1, x.count(8));
        x.key(0, 1, true);
        CHECK.yes("note -23, shifted to pipe 0", x.pipe(1, 0));
        CHECK.yes("note -23, shifted to pipe 1", x.pipe(3, 1));
        CHECK.due("notes below 0 are not counted", 2, x.count(9));
        x.key(0, 24, true);
        CHECK.due("note 0 is", 4, x.count(9));
        CHECK.yes("note 0", x.pipe(2, 0));
    }

    private static void couplersReachAboveTheHighestKey() {
        Console x = new Console();
        x.stop(4, 12, 0, 96);
        x.stop(4, 13, 0, 96);
        x.stop(4, -24, 0, 96);
        x.stop(4, 0, 0, 84);
        x.stop(4, 0, 0, 83);
        x.full(true);
        x.coupler(0, 4, 24);
        x.tab(0, true);
        x.key(0, 60, true);
        CHECK.yes("note 84, shifted to the highest pipe", x.pipe(0, 96));
        CHECK.no("note 84, shifted above it", x.pipe(1, 97));
        CHECK.due("no pipe above it", 0, x.about(1, 3));
        CHECK.yes("note 84, shifted down", x.pipe(2, 60));
        CHECK.yes("note 84", x.pipe(3, 84));
        CHECK.due("note 84, not in the compass", 0, x.about(4, 3));
        CHECK.due("open pipes", 3, x.count(8));
        CHECK.due("notes 60 and 84", 2, x.count(9));
    }

    // "some key that is down reaches the note": none, one, two
    private static void twoKeysReachOneNote() {
        Console x = new Console();
        x.stop(1, 0, 0, 96);
        x.knob(0, true);
        x.coupler(0, 1, 5);
        x.coupler(0, 1, 5);
        x.tab(0, true);
        x.tab(1, true);
        CHECK.no("none", x.pipe(0, 25));
        x.key(0, 20, true);
        x.key(1, 25, true);
        CHECK.due("one pipe for two keys", 1, x.count(8));
        CHECK.due("two notes: 20 of division 0, 25 of division 1", 2, x.count(9));
        x.key(1, 25, false);
        CHECK.yes("the other key holds it", x.pipe(0, 25));
        x.tab(0, false);
        CHECK.yes("by the other coupler", x.pipe(0, 25));
        x.tab(1, false);
        CHECK.no("by no coupler", x.pipe(0, 25));
        x.tab(1, true);
        x.key(0, 20, false);
        CHECK.no("none holds it", x.pipe(0, 25));
        x.coupler(1, 1, 0);
        x.tab(2, true);
        x.key(1, 25, true);
        CHECK.due("a coupler by 0 to its own division reaches the same note", 1, x.count(8));
        CHECK.due("which is one", 1, x.count(9));
    }

    // "A stop SPEAKS if its KNOB is out, or the crescendo adds it, or the full organ is on."
    private static void aStopSpeaksForThreeReasons() {
        for (int reasons = 0; reasons < 8; reasons++) {
            Console x = Scenes.stops(1);
            x.key(0, 33, true);
            x.assign(1, 0, true);
            x.knob(0, (reasons & 1) != 0);
            x.pedal((reasons & 2) != 0 ? 1 : 0);
            x.full((reasons & 4) != 0);
            int speaks = reasons == 0 ? 0 : 1;
            CHECK.due("speaks for " + reasons, speaks, x.about(0, 1));
            CHECK.due("open pipes for " + reasons, speaks, x.about(0, 3));
            CHECK.due("pipe for " + reasons, speaks, x.pipe(0, 33) ? 1 : 0);
            CHECK.due("count for " + reasons, speaks, x.count(8));
            CHECK.due("the knob", reasons & 1, x.about(0, 0));
        }
    }

    // "n lies in its compass"
    private static void pipesLieInTheCompass() {
        Console x = new Console();
        x.stop(0, 12, 20, 40);
        x.stop(1, 12, 20, 40);
        for (int k : new int[] {7, 8, 28, 29}) {
            x.key(0, k, true);
        }
        x.knob(0, true);
        x.knob(1, true);
        CHECK.no("below the compass", x.pipe(0, 19));
        CHECK.yes("the lowest pipe", x.pipe(0, 20));
        CHECK.no("a pipe that no key reaches", x.pipe(0, 21));
        CHECK.yes("the highest pipe", x.pipe(0, 40));
        CHECK.no("above the compass", x.pipe(0, 41));
        CHECK.due("open pipes", 2, x.about(0, 3));
        CHECK.due("open pipes of another division", 0, x.about(1, 3));
        CHECK.due("open pipes of all", 2, x.count(8));
        CHECK.due("notes", 4, x.count(9));
        x.key(0, 8, false);
        CHECK.no("the key is up", x.pipe(0, 20));
    }

    private static void theNarrowestCompass() {
        Console x = new Console();
        x.coupler(0, 0, -24);
        x.coupler(0, 0, 24);
        x.tab(0, true);
        x.tab(1, true);
        for (int k = 0; k <= 60; k++) {
            x.key(0, k, true);
        }
        int[][] compasses = {{0, 0}, {0, 39}, {39, 39}, {39, 40}, {40, 40}, {40, 84}, {83, 85}, {84, 84}, {85, 96}, {96, 96}};
        int[] open = {1, 40, 1, 2, 1, 45, 2, 1, 0, 0};
        for (int i = 0; i < compasses.length; i++) {
            x.stop(0, 0, compasses[i][0], compasses[i][1]);
            x.knob(i, true);
            CHECK.due("open pipes of " + compasses[i][0] + " .. " + compasses[i][1], open[i], x.about(i, 3));
            CHECK.no("below it", x.pipe(i, compasses[i][0] - 1));
            CHECK.due("its lowest", compasses[i][0] <= 84 ? 1 : 0, x.pipe(i, compasses[i][0]) ? 1 : 0);
            CHECK.due("its highest", compasses[i][1] <= 84 ? 1 : 0, x.pipe(i, compasses[i][1]) ? 1 : 0);
            CHECK.no("above it", x.pipe(i, compasses[i][1] + 1));
        }
    }

    // "the note n - its shift of its division"
    private static void pipesAreShifted() {
        int[] shifts = {-24, -1, 0, 1, 24};
        for (int shift : shifts) {
            Console x = new Console();
            x.stop(3, shift, 0, 96);
            x.knob(0, true);
            x.key(3, 24, true);
            x.key(3, 60, true);
            CHECK.yes("key 24 by " + shift, x.pipe(0, 24 + shift));
            CHECK.yes("key 60 by " + shift, x.pipe(0, 60 + shift));
            CHECK.due("open pipes by " + shift, 2, x.about(0, 3));
            x.key(3, 0, true);
            CHECK.due("key 0 by " + shift, shift < 0 ? 2 : 3, x.about(0, 3));
        }
    }

    private static void eachKeyOpensItsOwnPipe() {
        for (int shift = -24; shift <= 24; shift += 12) {
            for (int k = 0; k <= 60; k++) {
                Console x = new Console();
                x.stop(2, 7, 0, 96);
                x.knob(0, true);
                x.coupler(3, 2, shift);
                x.tab(0, true);
                x.key(3, k, true);
                for (int n = 0; n <= 96; n++) {
                    CHECK.due("key " + k + " by " + shift + ", pipe " + n, n == k + shift + 7 ? 1 : 0, x.pipe(0, n) ? 1 : 0);
                }
            }
        }
    }

    // "Whether a pipe of a stop is open.": any n may be asked, the farthest too
    private static void pipesFarOutsideAreNotOpen() {
        Console x = new Console();
        x.stop(0, -24, 0, 96);
        x.stop(0, 24, 0, 96);
        x.knob(0, true);
        x.knob(1, true);
        for (int k = 0; k <= 60; k++) {
            x.key(0, k, true);
        }
        int least = Integer.MIN_VALUE;
        int most = Integer.MAX_VALUE;
        // the last ones come to keys if n - shift goes round the end of the ints, or a bit's number does
        int[] far = {-1, -24, 97, 120, least, most, least + 24, least + 23, most - 23, most - 24, 128, 256, -64, -32};
        for (int n : far) {
            CHECK.no("pipe " + n + " by -24", x.pipe(0, n));
            CHECK.no("pipe " + n + " by 24", x.pipe(1, n));
        }
        CHECK.due("open pipes by -24", 37, x.about(0, 3));
        CHECK.due("open pipes by 24", 61, x.about(1, 3));
    }

    // "NoSuchElementException: stop."
    private static void pipesOfNoStop() {
        for (Console x : Scenes.all()) {
            for (int stop : Check.outside(0, x.twin().count(0) - 1)) {
                CHECK.refused(x, "pipe of stop " + stop, NoSuchElementException.class, c -> c.pipe(stop, 0));
                CHECK.refused(x, "no pipe of stop " + stop, NoSuchElementException.class, c -> c.pipe(stop, 97));
            }
        }
    }
}
