import java.util.NoSuchElementException;

/** Promises 5 knob, 8 press, 9 set, 10 level, 11 lock, 17 tick, 18 about, 20 lamp. */
public final class PistonsTest {
    private static final Check CHECK = new Check();
    private static final int[] FAR = {Integer.MIN_VALUE, -1, 48, Integer.MAX_VALUE};

    public static void main(String[] args) {
        handsMoveKnobs();
        pullsTakeThreeTicks();
        pullsBeginAnewOrAreDropped();
        handsDropPulls();
        divisionalsActInTheirDivision();
        aDivisionalLeavesOtherPulls();
        levelsHoldSetsOfTheirOwn();
        eachPistonHasASetOfItsOwn();
        theLockKeepsSets();
        setCountsWithinTheScope();
        aStopAddedLaterIsInNoSet();
        faultyCoilsDoNotMove();
        wrongPistons();
        wrongTicksAndLevels();
        whatAboutTells();
        CHECK.end("PistonsTest");
    }

    private static void knobs(OrganConsole x, boolean... out) {
        for (int s = 0; s < out.length; s++) {
            CHECK.due("knob of stop " + s, out[s] ? 1 : 0, x.about(s, 0));
        }
    }

    private static void handsMoveKnobs() {
        OrganConsole x = Check.stops(5);
        CHECK.no("in at first", x.knob(0, false));
        CHECK.yes("out", x.knob(0, true));
        CHECK.no("out again", x.knob(0, true));
        CHECK.due("count 3", 1, x.count(3));
        knobs(x, true, false, false, false, false);
        CHECK.yes("in", x.knob(0, false));
        CHECK.due("count 3", 0, x.count(3));
        int[] bad = {-1, 5, 48, 64, Integer.MIN_VALUE, Integer.MAX_VALUE};
        for (int stop : bad) {
            CHECK.refused(x, "knob " + stop, NoSuchElementException.class, () -> x.knob(stop, true));
        }
    }

    private static void pullsTakeThreeTicks() {
        OrganConsole x = Check.stops(5);
        x.knob(1, true);
        x.knob(2, true);
        CHECK.due("set", 2, x.set(0, 4));
        x.knob(1, false);
        x.knob(3, true);
        CHECK.no("lamp", x.lamp(0, 4));
        CHECK.due("press", 2, x.press(0, 4));
        CHECK.due("count 4", 2, x.count(4));
        CHECK.due("ticks left", 3, x.about(1, 2));
        CHECK.due("ticks left of one that stands right", 0, x.about(2, 2));
        CHECK.due("no ticks", 0, x.tick(0));
        CHECK.due("ticks left", 3, x.about(3, 2));
        CHECK.due("tick", 0, x.tick(1));
        CHECK.due("tick", 0, x.tick(1));
        CHECK.due("ticks left", 1, x.about(3, 2));
        CHECK.due("count 4", 2, x.count(4));
        knobs(x, false, false, true, true, false);
        CHECK.due("third tick", 2, x.tick(1));
        knobs(x, false, true, true, false, false);
        CHECK.due("ticks left", 0, x.about(3, 2));
        CHECK.due("count 4", 0, x.count(4));
        CHECK.yes("lamp", x.lamp(0, 4));
        CHECK.due("nothing to pull", 0, x.press(0, 4));
        CHECK.due("nothing pulled", 0, x.tick(100));
        x.press(0, 5);
        CHECK.due("many ticks at once move a knob once", 2, x.tick(100));
        CHECK.due("all in", 0, x.count(3));
    }

    private static void pullsBeginAnewOrAreDropped() {
        OrganConsole x = Check.stops(5);
        x.knob(0, true);
        x.set(0, 0);
        x.knob(1, true);
        x.set(0, 1);
        x.knob(0, false);
        x.knob(1, false);
        CHECK.due("press", 2, x.press(0, 1));
        x.tick(2);
        CHECK.due("the pull of stop 0 begins anew", 1, x.press(0, 0));
        CHECK.due("anew", 3, x.about(0, 2));
        CHECK.due("dropped", 0, x.about(1, 2));
        CHECK.due("tick", 0, x.tick(2));
        CHECK.due("tick", 1, x.tick(1));
        knobs(x, true, false);
    }

    private static void handsDropPulls() {
        OrganConsole x = Check.stops(5);
        for (int s = 0; s < 3; s++) {
            x.knob(s, true);
        }
        x.set(0, 0);
        for (int s = 0; s < 3; s++) {
            x.knob(s, false);
        }
        x.press(0, 0);
        x.tick(1);
        CHECK.no("a hand leaves a knob where it is", x.knob(0, false));
        CHECK.yes("a hand moves a knob", x.knob(1, true));
        CHECK.due("dropped", 0, x.about(0, 2));
        CHECK.due("dropped", 0, x.about(1, 2));
        CHECK.due("not dropped", 2, x.about(2, 2));
        CHECK.due("count 4", 1, x.count(4));
        CHECK.due("tick", 1, x.tick(3));
        knobs(x, false, true, true);
    }

    private static void divisionalsActInTheirDivision() {
        OrganConsole x = Check.stops(5);
        for (int s = 0; s < 5; s++) {
            x.knob(s, true);
        }
        for (int p = 0; p < 25; p += 3) {
            CHECK.due("set of divisional " + p, 1, x.set(1, p));
        }
        for (int s = 0; s < 5; s++) {
            x.knob(s, false);
        }
        for (int p = 0; p < 25; p += 3) {
            CHECK.no("lamp", x.lamp(1, p));
            CHECK.due("press of divisional " + p, 1, x.press(1, p));
            CHECK.due("tick", 1, x.tick(3));
            CHECK.due("the stop of division p / 5 is out", 1, x.about(p / 5, 0));
            CHECK.due("it alone", 1, x.count(3));
            CHECK.yes("lamp", x.lamp(1, p));
            x.knob(p / 5, false);
        }
        CHECK.yes("lamp of an empty set", x.lamp(1, 1));
        x.knob(1, true);
        CHECK.yes("a stop outside the scope does not matter", x.lamp(1, 1));
        CHECK.no("a stop in the scope does", x.lamp(1, 5));
        CHECK.no("a general's scope is all", x.lamp(0, 0));
    }

    private static void aDivisionalLeavesOtherPulls() {
        OrganConsole x = Check.stops(5);
        x.knob(0, true);
        x.knob(1, true);
        x.set(0, 0);
        x.knob(0, false);
        x.knob(1, false);
        x.press(0, 0);
        x.tick(1);
        CHECK.due("an empty divisional", 0, x.press(1, 0));
        CHECK.due("dropped in its scope", 0, x.about(0, 2));
        CHECK.due("left outside its scope", 2, x.about(1, 2));
        CHECK.due("tick", 1, x.tick(2));
        knobs(x, false, true);
    }

    private static void levelsHoldSetsOfTheirOwn() {
        OrganConsole x = Check.stops(5);
        for (int level = 0; level < 8; level++) {
            CHECK.due("level was", Math.max(level - 1, 0), x.level(level));
            x.knob(level % 5, level % 2 == 0);
            x.set(0, 15);
            x.set(1, 24);
        }
        OrganConsole y = Check.stops(5);
        for (int level = 0; level < 8; level++) {
            y.knob(level % 5, level % 2 == 0);
            x.level(level);
            x.press(0, 15);
            x.tick(3);
            for (int s = 0; s < 5; s++) {
                CHECK.due("level " + level + " stop " + s, y.about(s, 0), x.about(s, 0));
            }
            CHECK.yes("general lamp at level " + level, x.lamp(0, 15));
            CHECK.yes("divisional lamp at level " + level, x.lamp(1, 24));
        }
        CHECK.due("level was", 7, x.level(7));
    }

    private static void eachPistonHasASetOfItsOwn() {
        for (int level = 0; level < 8; level++) {
            for (int p = 0; p < 25; p++) {
                onlyOneIsSet(1, level, p);
                if (p < 16) {
                    onlyOneIsSet(0, level, p);
                }
            }
        }
    }

    /** With all knobs in, every lamp is lit but that of the one piston whose set is not empty. */
    private static void onlyOneIsSet(int kind, int level, int p) {
        OrganConsole x = Check.stops(5);
        int stop = kind == 1 ? p / 5 : p % 5;
        x.knob(stop, true);
        x.level(level);
        CHECK.due("set", 1, x.set(kind, p));
        x.knob(stop, false);
        for (int l = 0; l < 8; l++) {
            x.level(l);
            for (int q = 0; q < 25; q++) {
                boolean here = l == level && q == p;
                CHECK.due("divisional " + q + " at " + l, here && kind == 1 ? 0 : 1, x.lamp(1, q) ? 1 : 0);
                if (q < 16) {
                    CHECK.due("general " + q + " at " + l, here && kind == 0 ? 0 : 1, x.lamp(0, q) ? 1 : 0);
                }
            }
        }
    }

    private static void theLockKeepsSets() {
        OrganConsole x = Check.stops(5);
        x.knob(0, true);
        x.insert();
        CHECK.yes("lock", x.lock(true));
        CHECK.no("lock again", x.lock(true));
        for (int kind = 0; kind < 3; kind++) {
            int k = kind;
            CHECK.refused(x, "set, locked, kind " + k, IllegalStateException.class, () -> x.set(k, 0));
        }
        CHECK.refused(x, "set of no kind, locked", NoSuchElementException.class, () -> x.set(3, 0));
        CHECK.refused(x, "set of no piston, locked", NoSuchElementException.class, () -> x.set(0, 16));
        CHECK.refused(x, "set of no frame, locked", NoSuchElementException.class, () -> x.set(2, 1));
        CHECK.due("press, locked", 1, x.press(0, 0));
        CHECK.due("level, locked", 0, x.level(2));
        CHECK.yes("unlock", x.lock(false));
        CHECK.no("unlock again", x.lock(false));
        CHECK.due("set, unlocked", 1, x.set(0, 0));
    }

    private static void setCountsWithinTheScope() {
        OrganConsole x = Check.stops(5);
        x.stop(2, 0, 0, 96);
        x.stop(2, 0, 0, 96);
        for (int s = 0; s < 7; s++) {
            x.knob(s, s != 3);
        }
        CHECK.due("general", 6, x.set(0, 0));
        CHECK.due("division 0", 1, x.set(1, 4));
        CHECK.due("division 2", 3, x.set(1, 10));
        CHECK.due("division 2", 3, x.set(1, 14));
        CHECK.due("division 3", 0, x.set(1, 15));
        x.knob(5, false);
        CHECK.due("a set anew", 2, x.set(1, 10));
        CHECK.due("pulls, not what they will bring, are not in a set", 1, x.press(1, 14));
        CHECK.due("set amid a pull", 2, x.set(1, 11));
        x.tick(3);
        CHECK.no("lamp of it", x.lamp(1, 11));
    }

    private static void aStopAddedLaterIsInNoSet() {
        OrganConsole x = Check.stops(5);
        for (int s = 0; s < 5; s++) {
            x.knob(s, true);
        }
        x.set(0, 0);
        x.set(1, 0);
        int late = x.stop(0, 0, 0, 96);
        CHECK.yes("lamp, the new knob is in", x.lamp(0, 0));
        x.knob(late, true);
        CHECK.no("lamp", x.lamp(0, 0));
        CHECK.no("lamp", x.lamp(1, 0));
        CHECK.due("press", 1, x.press(1, 0));
        CHECK.due("tick", 1, x.tick(3));
        CHECK.due("it is in", 0, x.about(late, 0));
    }

    private static void faultyCoilsDoNotMove() {
        OrganConsole x = Check.stops(5);
        for (int s = 0; s < 3; s++) {
            x.knob(s, true);
        }
        x.set(0, 0);
        for (int s = 0; s < 3; s++) {
            x.knob(s, false);
        }
        x.fault(1, 0, 1);
        x.fault(1, 1, 2);
        CHECK.due("pulls begin all the same", 3, x.press(0, 0));
        CHECK.due("count 4", 3, x.count(4));
        x.fault(1, 1, 0);
        x.fault(1, 2, 1);
        CHECK.due("the fault at the third tick matters", 1, x.tick(3));
        knobs(x, false, true, false);
        CHECK.due("all pulls have ended", 0, x.count(4));
        CHECK.yes("a hand moves a knob with a faulty coil", x.knob(0, true));
        x.fault(1, 2, 0);
        CHECK.due("an ended pull does not go on", 0, x.tick(100));
        CHECK.due("press", 1, x.press(0, 0));
        CHECK.due("tick", 1, x.tick(3));
    }

    private static void wrongPistons() {
        OrganConsole x = Check.stops(5);
        x.knob(0, true);
        x.insert();
        int[][] bad = {{-1, 0}, {3, 0}, {Integer.MIN_VALUE, 0}, {Integer.MAX_VALUE, 0}, {0, -1}, {0, 16},
            {0, Integer.MAX_VALUE}, {1, -1}, {1, 25}, {1, Integer.MIN_VALUE}, {2, -1}, {2, 1}, {2, 100}};
        for (int[] b : bad) {
            String told = " " + b[0] + " " + b[1];
            CHECK.refused(x, "press" + told, NoSuchElementException.class, () -> x.press(b[0], b[1]));
            CHECK.refused(x, "set" + told, NoSuchElementException.class, () -> x.set(b[0], b[1]));
            CHECK.refused(x, "lamp" + told, NoSuchElementException.class, () -> x.lamp(b[0], b[1]));
        }
        CHECK.due("the last general", 1, x.set(0, 15));
        CHECK.due("the last divisional", 0, x.set(1, 24));
    }

    private static void wrongTicksAndLevels() {
        OrganConsole x = Check.stops(5);
        x.knob(0, true);
        x.press(0, 0);
        int[] ticks = {-1, 101, Integer.MIN_VALUE, Integer.MAX_VALUE};
        for (int n : ticks) {
            CHECK.refused(x, "tick " + n, IllegalArgumentException.class, () -> x.tick(n));
        }
        int[] levels = {-1, 8, Integer.MIN_VALUE, Integer.MAX_VALUE};
        x.level(7);
        for (int n : levels) {
            CHECK.refused(x, "level " + n, IllegalArgumentException.class, () -> x.level(n));
        }
        CHECK.due("the level stays", 7, x.level(0));
        CHECK.due("100 ticks", 1, x.tick(100));
    }

    private static void whatAboutTells() {
        OrganConsole x = Check.stops(5);
        x.knob(0, true);
        x.key(0, 5, true);
        x.press(0, 0);
        int[] told = {1, 1, 3, 1};
        for (int what = 0; what < 4; what++) {
            CHECK.due("about 0 " + what, told[what], x.about(0, what));
            CHECK.due("about 1 " + what, 0, x.about(1, what));
        }
        int[] bad = {-1, 4, Integer.MIN_VALUE, Integer.MAX_VALUE};
        for (int what : bad) {
            CHECK.refused(x, "about 0 " + what, IllegalArgumentException.class, () -> x.about(0, what));
            CHECK.refused(x, "about 5 " + what, NoSuchElementException.class, () -> x.about(5, what));
        }
        for (int stop : FAR) {
            CHECK.refused(x, "about " + stop, NoSuchElementException.class, () -> x.about(stop, 0));
        }
    }
}
