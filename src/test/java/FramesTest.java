import java.util.NoSuchElementException;

/** Promises 12 move, 13 insert, 14 delete, and frames in 8 press, 9 set and 20 lamp. */
public final class FramesTest {
    private static final Check CHECK = new Check();

    public static void main(String[] args) {
        framesComeBehindTheCursor();
        moveRecalls();
        deleteGoesBack();
        pressBringsTheCursor();
        setOfAFrame();
        theLockKeepsFrames();
        aHundredFrames();
        framesAndStepsHaveSetsOfTheirOwn();
        noFrames();
        framesHaveNoLevel();
        CHECK.end("FramesTest");
    }

    /** A frame with just one stop, behind the cursor. */
    private static int insertWith(OrganConsole x, int stop) {
        for (int s = 0; s < x.count(0); s++) {
            x.knob(s, s == stop);
        }
        return x.insert();
    }

    /** Which stop each frame holds, asked by lamps: one knob out at a time. */
    private static void holds(OrganConsole x, int... stops) {
        CHECK.due("frames", stops.length, x.count(5));
        for (int f = 0; f < stops.length; f++) {
            for (int s = 0; s < x.count(0); s++) {
                x.knob(s, s == stops[f]);
            }
            CHECK.yes("frame " + f + " holds stop " + stops[f], x.lamp(2, f));
        }
    }

    private static void framesComeBehindTheCursor() {
        OrganConsole x = Check.stops(6);
        CHECK.due("insert", 1, insertWith(x, 0));
        CHECK.due("cursor", 0, x.count(6));
        CHECK.due("insert", 2, insertWith(x, 1));
        CHECK.due("insert", 3, insertWith(x, 2));
        CHECK.due("cursor", 2, x.count(6));
        x.move(-2);
        CHECK.due("insert in between", 4, insertWith(x, 3));
        CHECK.due("cursor", 1, x.count(6));
        CHECK.due("an inserted frame begins no pull", 0, x.count(4));
        holds(x, 0, 3, 1, 2);
    }

    private static void moveRecalls() {
        OrganConsole x = Check.stops(4);
        for (int s = 0; s < 4; s++) {
            insertWith(x, s);
        }
        CHECK.due("nothing to pull", 0, x.move(0));
        CHECK.due("back by two", 2, x.move(-2));
        CHECK.due("cursor", 1, x.count(6));
        CHECK.due("tick", 2, x.tick(3));
        CHECK.due("stop 1 is out", 1, x.about(1, 0));
        CHECK.due("on by one", 2, x.move(1));
        CHECK.due("on by one amid pulls", 2, x.move(1));
        CHECK.due("the pull of stop 2 is dropped", 0, x.about(2, 2));
        int[] bad = {1, 2, -4, -5, Integer.MAX_VALUE, Integer.MIN_VALUE};
        for (int by : bad) {
            CHECK.refused(x, "move " + by, IllegalArgumentException.class, () -> x.move(by));
        }
        CHECK.due("to the first", 2, x.move(-3));
        CHECK.due("cursor", 0, x.count(6));
        CHECK.refused(x, "move ahead of all", IllegalArgumentException.class, () -> x.move(-1));
        CHECK.refused(x, "move far on", IllegalArgumentException.class, () -> x.move(Integer.MAX_VALUE));
        x.delete();
        CHECK.due("cursor", -1, x.count(6));
        CHECK.refused(x, "move by 0 ahead of all", IllegalArgumentException.class, () -> x.move(0));
        CHECK.refused(x, "move back ahead of all", IllegalArgumentException.class, () -> x.move(Integer.MIN_VALUE));
        CHECK.due("on from ahead of all", 0, x.move(1));
        CHECK.due("cursor", 0, x.count(6));
        CHECK.yes("the lock", x.lock(true));
        CHECK.due("the lock keeps no cursor", 2, x.move(2));
    }

    private static void deleteGoesBack() {
        OrganConsole x = Check.stops(5);
        for (int s = 0; s < 5; s++) {
            insertWith(x, s);
        }
        x.move(-2);
        CHECK.due("delete", 4, x.delete());
        CHECK.due("cursor", 1, x.count(6));
        CHECK.due("delete", 3, x.delete());
        CHECK.due("cursor", 0, x.count(6));
        CHECK.due("delete begins no pull", 2, x.count(4));
        CHECK.due("delete", 2, x.delete());
        CHECK.due("cursor", -1, x.count(6));
        CHECK.refused(x, "delete ahead of all", IllegalStateException.class, () -> x.delete());
        holds(x, 3, 4);
        CHECK.due("insert ahead of all", 3, insertWith(x, 2));
        CHECK.due("cursor", 0, x.count(6));
        holds(x, 2, 3, 4);
        x.press(2, 2);
        CHECK.due("the last frame goes", 2, x.delete());
        CHECK.refused(x, "a frame that went", NoSuchElementException.class, () -> x.press(2, 2));
        holds(x, 2, 3);
    }

    private static void pressBringsTheCursor() {
        OrganConsole x = Check.stops(3);
        for (int s = 0; s < 3; s++) {
            insertWith(x, s);
        }
        CHECK.due("press", 2, x.press(2, 0));
        CHECK.due("cursor", 0, x.count(6));
        CHECK.due("tick", 2, x.tick(3));
        CHECK.yes("lamp", x.lamp(2, 0));
        CHECK.no("lamp", x.lamp(2, 1));
        CHECK.due("a lamp brings no cursor", 0, x.count(6));
        x.press(0, 0);
        x.press(1, 0);
        CHECK.due("pistons bring no cursor", 0, x.count(6));
    }

    private static void setOfAFrame() {
        OrganConsole x = Check.stops(3);
        insertWith(x, 0);
        insertWith(x, 1);
        insertWith(x, 2);
        x.knob(0, true);
        CHECK.due("set", 2, x.set(2, 1));
        CHECK.due("set brings no cursor", 2, x.count(6));
        CHECK.yes("lamp", x.lamp(2, 1));
        x.knob(0, false);
        CHECK.no("lamp", x.lamp(2, 1));
        CHECK.yes("the frame behind is as it was", x.lamp(2, 2));
        CHECK.due("frames", 3, x.count(5));
    }

    private static void theLockKeepsFrames() {
        OrganConsole x = Check.stops(2);
        insertWith(x, 0);
        x.lock(true);
        CHECK.refused(x, "insert, locked", IllegalStateException.class, () -> x.insert());
        CHECK.refused(x, "delete, locked", IllegalStateException.class, () -> x.delete());
        x.lock(false);
        CHECK.due("delete", 0, x.delete());
    }

    private static void aHundredFrames() {
        OrganConsole x = Check.stops(48);
        for (int f = 0; f < 100; f++) {
            x.knob(f % 48, f < 48);
            CHECK.due("insert", f + 1, x.insert());
        }
        CHECK.due("the cursor", 99, x.count(6));
        CHECK.refused(x, "a 101st frame", IllegalStateException.class, () -> x.insert());
        x.move(-99);
        CHECK.refused(x, "a 101st frame at the front", IllegalStateException.class, () -> x.insert());
        x.tick(3);
        CHECK.due("frame 0 has stop 0 alone", 1, x.count(3));
        CHECK.due("frame 47 has all", 47, x.press(2, 47));
        x.assign(1, 0, true);
        x.pedal(1);
        CHECK.due("delete", 99, x.delete());
        CHECK.due("insert", 100, x.insert());
        CHECK.due("steps are untouched", 1, x.about(0, 1));
        CHECK.due("the last frame's pulls", x.press(2, 99), x.count(4));
    }

    private static void framesAndStepsHaveSetsOfTheirOwn() {
        OrganConsole x = Check.stops(1);
        x.knob(0, true);
        for (int f = 0; f < 100; f++) {
            x.insert();
        }
        for (int step = 1; step <= 15; step++) {
            CHECK.no("step " + step + " is empty", x.assign(step, 0, false));
        }
        for (int f = 0; f < 100; f++) {
            CHECK.yes("frame " + f + " has the stop", x.lamp(2, f));
        }
        x.knob(0, false);
        for (int p = 0; p < 25; p++) {
            CHECK.yes("divisional " + p + " is empty", x.lamp(1, p));
        }
        x.level(7);
        for (int p = 0; p < 25; p++) {
            CHECK.yes("divisional " + p + " is empty at level 7", x.lamp(1, p));
        }
    }

    private static void noFrames() {
        OrganConsole x = Check.stops(1);
        CHECK.refused(x, "press", NoSuchElementException.class, () -> x.press(2, 0));
        CHECK.refused(x, "press of -1", NoSuchElementException.class, () -> x.press(2, -1));
        CHECK.refused(x, "set", NoSuchElementException.class, () -> x.set(2, 0));
        CHECK.refused(x, "lamp", NoSuchElementException.class, () -> x.lamp(2, 0));
        CHECK.refused(x, "delete", IllegalStateException.class, () -> x.delete());
        for (int by = -2; by <= 2; by++) {
            int b = by;
            CHECK.refused(x, "move " + b, IllegalArgumentException.class, () -> x.move(b));
        }
    }

    private static void framesHaveNoLevel() {
        OrganConsole x = Check.stops(2);
        insertWith(x, 1);
        x.level(5);
        CHECK.yes("lamp at another level", x.lamp(2, 0));
        x.knob(0, true);
        x.set(2, 0);
        x.level(0);
        CHECK.yes("set at another level", x.lamp(2, 0));
    }
}
