import java.util.NoSuchElementException;

/** Promises 12 move, 13 insert, 14 delete, and frames in 8 press, 9 set and 20 lamp. */
public final class FramesTest {
    private static final Check CHECK = new Check();

    public static void main(String[] args) {
        withoutFrames();
        framesComeDirectlyBehindTheCursor();
        aFrameComesAheadOfAll();
        aFrameIsTheKnobsAsTheyStand();
        insertBeginsAndDropsNoPull();
        theHundredthFrame();
        aFrameTooMany();
        everyOfAHundredFramesHasASetOfItsOwn();
        framesAndOtherSetsAreApart();
        moveRecallsTheFrameThere();
        moveToTheFirstAndTheLast();
        movesToNoFrame();
        movesFromAheadOfAll();
        movesRoundTheEndOfTheInts();
        theFrameAtTheCursorGoes();
        deleteTheFirst();
        deleteTheLast();
        deleteAHundred();
        deleteBeginsAndDropsNoPull();
        deleteAheadOfAll();
        pressOfAFrameBringsTheCursor();
        framesThatAreNot();
        setOfAFrame();
        lampOfAFrame();
        framesHaveNoLevel();
        theLockKeepsFrames();
        CHECK.end("FramesTest");
    }

    /** A frame with just one stop, behind the cursor. */
    private static int insertWith(Console x, int stop) {
        alone(x, stop);
        return x.insert();
    }

    private static void alone(Console x, int stop) {
        int stops = x.twin().count(0);
        for (int s = 0; s < stops; s++) {
            x.knob(s, s == stop);
        }
    }

    /** As many stops as frames, of which frame f holds stop f alone; the cursor is at the last. */
    private static Console frames(int size) {
        Console x = Scenes.stops(size);
        for (int f = 0; f < size; f++) {
            insertWith(x, f);
        }
        return x;
    }

    /** Which stop each frame holds, asked by lamps: one knob out at a time. */
    private static void holds(Console x, int... stops) {
        Console twin = x.twin();
        CHECK.due("frames", stops.length, twin.count(5));
        for (int f = 0; f < stops.length; f++) {
            alone(twin, stops[f]);
            CHECK.yes("frame " + f + " holds stop " + stops[f], twin.lamp(2, f));
        }
    }

    private static void at(Console x, int cursor) {
        CHECK.due("cursor", cursor, x.count(6));
    }

    private static void withoutFrames() {
        Console x = Scenes.stops(1);
        CHECK.due("frames", 0, x.count(5));
        at(x, -1);
        for (int p : new int[] {-1, 0, 1, 99, 100}) {
            CHECK.refused(x, "press " + p, NoSuchElementException.class, c -> c.press(2, p));
            CHECK.refused(x, "set " + p, NoSuchElementException.class, c -> c.set(2, p));
            CHECK.refused(x, "lamp " + p, NoSuchElementException.class, c -> c.lamp(2, p));
        }
        CHECK.refused(x, "delete", IllegalStateException.class, c -> c.delete());
        for (int by = -2; by <= 2; by++) {
            int b = by;
            CHECK.refused(x, "move " + b, IllegalArgumentException.class, c -> c.move(b));
        }
    }

    // "a frame directly behind the cursor, which comes to be there: how many frames there are"
    private static void framesComeDirectlyBehindTheCursor() {
        Console x = Scenes.stops(6);
        CHECK.due("the first frame", 1, insertWith(x, 0));
        at(x, 0);
        CHECK.due("behind it", 2, insertWith(x, 1));
        at(x, 1);
        CHECK.due("behind this", 3, insertWith(x, 2));
        at(x, 2);
        x.move(-2);
        CHECK.due("in between", 4, insertWith(x, 3));
        at(x, 1);
        holds(x, 0, 3, 1, 2);
        CHECK.due("and again", 5, insertWith(x, 4));
        at(x, 2);
        holds(x, 0, 3, 4, 1, 2);
    }

    private static void aFrameComesAheadOfAll() {
        Console x = frames(4);
        x.commit(9);
        x.boot();
        at(x, -1);
        CHECK.due("insert ahead of all", 5, insertWith(x, 2));
        at(x, 0);
        holds(x, 2, 0, 1, 2, 3);
    }

    // "The knobs as they stand become a frame"
    private static void aFrameIsTheKnobsAsTheyStand() {
        Console x = Scenes.stops(5);
        x.knob(0, true);
        x.press(0, 0);
        x.knob(4, true);
        x.full(true);
        x.assign(1, 2, true);
        x.pedal(1);
        CHECK.due("insert", 1, x.insert());
        CHECK.yes("no pull, no crescendo, no full organ counts", x.lamp(2, 0));
        x.tick(3);
        CHECK.no("the pull has ended", x.lamp(2, 0));
        CHECK.due("press", 1, x.press(2, 0));
        x.tick(3);
        CHECK.due("knobs out", 2, x.count(3));
        CHECK.due("without a stop out, too", 2, emptyFrame(x));
        CHECK.yes("lamp of it", x.lamp(2, 1));
    }

    private static int emptyFrame(Console x) {
        alone(x, -1);
        return x.insert();
    }

    private static void insertBeginsAndDropsNoPull() {
        Console x = frames(3);
        x.move(-2);
        x.tick(1);
        CHECK.due("insert", 4, x.insert());
        CHECK.due("pulls", 2, x.count(4));
        CHECK.due("left", 2, x.about(0, 2));
        CHECK.due("ticks", 2, x.tick(2));
    }

    // "FRAMES (kind 2) are 0, 1, .. , at most 100"
    private static void theHundredthFrame() {
        for (int where : new int[] {-1, 0, 49, 98}) {
            Console x = Scenes.stops(2);
            for (int f = 0; f < 99; f++) {
                x.insert();
            }
            if (where == -1) {
                x.commit(9);
                x.boot();
            } else {
                x.press(2, where);
            }
            x.knob(1, true);
            CHECK.due("the 100th frame", 100, x.insert());
            at(x, where + 1);
            for (int f = 0; f < 100; f++) {
                CHECK.due("lamp of frame " + f, f == where + 1 ? 1 : 0, x.lamp(2, f) ? 1 : 0);
            }
            CHECK.refused(x, "a 101st frame", IllegalStateException.class, c -> c.insert());
        }
    }

    // "IllegalStateException: the lock is on, or there are 100."
    private static void aFrameTooMany() {
        Console x = Scenes.full();
        CHECK.refused(x, "a 101st frame", IllegalStateException.class, c -> c.insert());
        x.press(2, 0);
        CHECK.refused(x, "a 101st frame at the front", IllegalStateException.class, c -> c.insert());
        x.press(2, 50);
        CHECK.refused(x, "a 101st frame in between", IllegalStateException.class, c -> c.insert());
        x.lock(true);
        CHECK.refused(x, "a 101st frame, locked", IllegalStateException.class, c -> c.insert());
        x.lock(false);
        x.commit(9);
        x.boot();
        CHECK.refused(x, "a 101st frame ahead of all", IllegalStateException.class, c -> c.insert());
        x.move(1);
        at(x, 0);
        CHECK.due("one goes", 99, x.delete());
        CHECK.due("one comes", 100, x.insert());
    }

    /** Frame f is told by seven stops as a number. */
    private static void everyOfAHundredFramesHasASetOfItsOwn() {
        Console x = Scenes.stops(7);
        int knobs = 0;
        for (int f = 0; f < 100; f++) {
            knobs = bring(x, knobs, f);
            CHECK.due("insert", f + 1, x.insert());
        }
        for (int f = 0; f < 100; f++) {
            Console twin = x.twin();
            twin.press(2, f);
            twin.tick(3);
            for (int s = 0; s < 7; s++) {
                CHECK.due("frame " + f + ", stop " + s, f >> s & 1, twin.about(s, 0));
            }
        }
    }

    private static int bring(Console x, int from, int to) {
        for (int s = 0; s < 7; s++) {
            if ((from >> s & 1) != (to >> s & 1)) {
                x.knob(s, (to >> s & 1) == 1);
            }
        }
        return to;
    }

    private static void framesAndOtherSetsAreApart() {
        Console x = Scenes.stops(1);
        x.knob(0, true);
        for (int f = 0; f < 100; f++) {
            x.insert();
        }
        for (int step = 1; step <= 15; step++) {
            CHECK.no("step " + step + " is empty", x.assign(step, 0, false));
        }
        for (int level = 0; level < 8; level += 7) {
            x.level(level);
            for (int p = 0; p < 5; p++) {
                CHECK.no("divisional " + p + " is empty", x.lamp(1, p));
            }
            for (int p = 0; p < 16; p++) {
                CHECK.no("general " + p + " is empty", x.lamp(0, p));
            }
        }
        x.knob(0, false);
        for (int step = 0; step <= 15; step++) {
            x.pedal(step);
            CHECK.due("no frame is a step: pedal at " + step, 0, x.about(0, 1));
        }
        x.knob(0, true);
        x.assign(1, 0, true);
        x.pedal(1);
        x.press(2, 50);
        CHECK.due("delete", 99, x.delete());
        CHECK.due("insert", 100, x.insert());
        CHECK.no("the step is untouched", x.assign(1, 0, true));
        for (int f = 0; f < 100; f++) {
            CHECK.yes("frame " + f + " has the stop", x.lamp(2, f));
        }
    }

    // "The cursor goes on by so many frames (back, if below 0), and that frame is recalled: how many pulls begin."
    private static void moveRecallsTheFrameThere() {
        Console x = frames(4);
        CHECK.due("by none: nothing to pull", 0, x.move(0));
        at(x, 3);
        x.knob(0, true);
        CHECK.due("by none: the frame is recalled", 1, x.move(0));
        x.knob(0, false);
        CHECK.due("back by two", 2, x.move(-2));
        at(x, 1);
        CHECK.due("ticks", 2, x.tick(3));
        CHECK.due("stop 1 is out", 1, x.about(1, 0));
        CHECK.due("on by one", 2, x.move(1));
        CHECK.due("on by one amid pulls", 2, x.move(1));
        CHECK.due("the pull of stop 2 is dropped", 0, x.about(2, 2));
        CHECK.due("the pull of stop 1 has begun anew", 3, x.about(1, 2));
        at(x, 3);
        CHECK.yes("lock", x.lock(true));
        CHECK.due("the lock keeps no cursor", 0, x.move(-2));
        at(x, 1);
    }

    private static void moveToTheFirstAndTheLast() {
        Console x = frames(4);
        CHECK.due("to the first", 2, x.move(-3));
        at(x, 0);
        CHECK.due("to the last", 0, x.move(3));
        at(x, 3);
        Console y = Scenes.full();
        int first = y.move(-99);
        CHECK.due("to the first of a hundred", y.count(4), first);
        at(y, 0);
        int last = y.move(99);
        CHECK.due("to the last of a hundred", y.count(4), last);
        at(y, 99);
    }

    // "IllegalArgumentException: no frame is there."
    private static void movesToNoFrame() {
        for (int cursor = 0; cursor < 4; cursor++) {
            Console x = frames(4);
            x.press(2, cursor);
            x.tick(1);
            for (int by : new int[] {-cursor - 2, -cursor - 1, 4 - cursor, 5 - cursor, 100, -100}) {
                CHECK.refused(x, "move " + by + " from " + cursor, IllegalArgumentException.class, c -> c.move(by));
            }
            for (int to = 0; to < 4; to++) {
                Console twin = x.twin();
                twin.move(to - cursor);
                at(twin, to);
            }
        }
        Console y = Scenes.full();
        for (int by : new int[] {1, -100, -101}) {
            CHECK.refused(y, "move " + by + " from the last of a hundred", IllegalArgumentException.class, c -> c.move(by));
        }
    }

    // "or ahead of all (-1)"
    private static void movesFromAheadOfAll() {
        Console x = frames(3);
        x.commit(9);
        x.boot();
        for (int by : new int[] {0, -1, -2, 4, 5}) {
            CHECK.refused(x, "move " + by + " ahead of all", IllegalArgumentException.class, c -> c.move(by));
        }
        for (int by = 1; by <= 3; by++) {
            Console twin = x.twin();
            CHECK.due("on by " + by, by == 3 ? 0 : 2, twin.move(by));
            at(twin, by - 1);
        }
    }

    private static void movesRoundTheEndOfTheInts() {
        int least = Integer.MIN_VALUE;
        int most = Integer.MAX_VALUE;
        for (int cursor = -1; cursor < 3; cursor++) {
            Console x = frames(3);
            x.commit(9);
            x.boot();
            if (cursor >= 0) {
                x.move(cursor + 1);
            }
            for (int by : new int[] {least, least + 1, least + 2, most, most - 1, most - 2}) {
                CHECK.refused(x, "move " + by + " from " + cursor, IllegalArgumentException.class, c -> c.move(by));
            }
        }
    }

    // "The frame at the cursor goes, the cursor is at the one ahead of it (or at -1) then: how many are left."
    private static void theFrameAtTheCursorGoes() {
        Console x = frames(5);
        x.move(-2);
        CHECK.due("delete", 4, x.delete());
        at(x, 1);
        holds(x, 0, 1, 3, 4);
        CHECK.due("delete", 3, x.delete());
        at(x, 0);
        holds(x, 0, 3, 4);
    }

    private static void deleteTheFirst() {
        Console x = frames(3);
        x.move(-2);
        CHECK.due("delete", 2, x.delete());
        at(x, -1);
        holds(x, 1, 2);
        CHECK.due("insert at its place", 3, insertWith(x, 0));
        at(x, 0);
        holds(x, 0, 1, 2);
        Console y = frames(1);
        CHECK.due("the only one", 0, y.delete());
        at(y, -1);
        CHECK.due("one anew", 1, y.insert());
        at(y, 0);
    }

    private static void deleteTheLast() {
        Console x = frames(3);
        CHECK.due("delete", 2, x.delete());
        at(x, 1);
        holds(x, 0, 1);
        CHECK.refused(x, "a frame that went", NoSuchElementException.class, c -> c.press(2, 2));
        CHECK.refused(x, "move to it", IllegalArgumentException.class, c -> c.move(1));
    }

    private static void deleteAHundred() {
        Console x = Scenes.full();
        for (int left = 99; left >= 0; left--) {
            CHECK.due("delete", left, x.delete());
            at(x, left - 1);
        }
        CHECK.refused(x, "delete once more", IllegalStateException.class, c -> c.delete());
    }

    private static void deleteBeginsAndDropsNoPull() {
        Console x = frames(3);
        x.move(-2);
        x.tick(1);
        CHECK.due("delete", 2, x.delete());
        CHECK.due("pulls", 2, x.count(4));
        CHECK.due("left", 2, x.about(0, 2));
        CHECK.due("ticks", 2, x.tick(2));
        CHECK.due("stop 0 is out", 1, x.about(0, 0));
    }

    // "IllegalStateException: the lock is on, or the cursor is at -1."
    private static void deleteAheadOfAll() {
        Console x = frames(3);
        x.move(-2);
        x.delete();
        CHECK.refused(x, "delete, two frames left", IllegalStateException.class, c -> c.delete());
        x.lock(true);
        CHECK.refused(x, "delete, two frames left, locked", IllegalStateException.class, c -> c.delete());
        x.lock(false);
        x.move(1);
        CHECK.due("delete at a frame", 1, x.delete());
    }

    // "or of a frame (kind 2; the cursor is there then)"
    private static void pressOfAFrameBringsTheCursor() {
        Console x = frames(3);
        CHECK.due("the first", 2, x.press(2, 0));
        at(x, 0);
        CHECK.due("ticks", 2, x.tick(3));
        CHECK.yes("lamp", x.lamp(2, 0));
        CHECK.no("lamp", x.lamp(2, 1));
        at(x, 0);
        CHECK.due("the last", 2, x.press(2, 2));
        at(x, 2);
        x.press(0, 0);
        x.press(1, 0);
        at(x, 2);
        Console y = Scenes.full();
        y.press(2, 0);
        at(y, 0);
        y.press(2, 99);
        at(y, 99);
    }

    private static void framesThatAreNot() {
        Console x = frames(3);
        for (int p : Check.outside(0, 2)) {
            CHECK.refused(x, "press of frame " + p, NoSuchElementException.class, c -> c.press(2, p));
            CHECK.refused(x, "set of frame " + p, NoSuchElementException.class, c -> c.set(2, p));
            CHECK.refused(x, "lamp of frame " + p, NoSuchElementException.class, c -> c.lamp(2, p));
        }
        x.lock(true);
        CHECK.refused(x, "set of frame 3, locked", NoSuchElementException.class, c -> c.set(2, 3));
    }

    // "The knobs as they stand .. become the set .. of a frame"
    private static void setOfAFrame() {
        Console x = frames(3);
        x.knob(0, true);
        CHECK.due("set", 2, x.set(2, 1));
        at(x, 2);
        CHECK.due("frames", 3, x.count(5));
        CHECK.yes("lamp", x.lamp(2, 1));
        x.knob(0, false);
        CHECK.no("lamp", x.lamp(2, 1));
        CHECK.yes("the frame behind is as it was", x.lamp(2, 2));
        alone(x, 0);
        CHECK.yes("the frame ahead is as it was", x.lamp(2, 0));
        CHECK.due("set of the last", 1, x.set(2, 2));
        CHECK.yes("lamp of the last", x.lamp(2, 2));
    }

    // "Whether a piston's lamp .., or a frame's, is lit"
    private static void lampOfAFrame() {
        Console x = frames(3);
        CHECK.yes("as it stands", x.lamp(2, 2));
        CHECK.no("another", x.lamp(2, 0));
        x.knob(0, true);
        CHECK.no("one too many", x.lamp(2, 2));
        x.knob(2, false);
        CHECK.yes("as it stands", x.lamp(2, 0));
        x.knob(0, false);
        CHECK.no("one too few", x.lamp(2, 0));
        int late = x.stop(3, 0, 0, 96);
        x.knob(0, true);
        CHECK.yes("a stop added later, its knob in", x.lamp(2, 0));
        x.knob(late, true);
        CHECK.no("a stop added later, its knob out", x.lamp(2, 0));
    }

    private static void framesHaveNoLevel() {
        Console x = frames(2);
        x.level(5);
        CHECK.yes("lamp at another level", x.lamp(2, 1));
        x.knob(0, true);
        x.set(2, 0);
        x.level(0);
        CHECK.yes("set at another level", x.lamp(2, 0));
        CHECK.due("press at another level", 0, x.press(2, 0));
    }

    private static void theLockKeepsFrames() {
        for (Console x : new Console[] {frames(2), Scenes.busy()}) {
            int frames = x.twin().count(5);
            x.lock(true);
            CHECK.refused(x, "insert, locked", IllegalStateException.class, c -> c.insert());
            CHECK.refused(x, "delete, locked", IllegalStateException.class, c -> c.delete());
            CHECK.refused(x, "set, locked", IllegalStateException.class, c -> c.set(2, 0));
            x.lock(false);
            CHECK.due("delete", frames - 1, x.delete());
            CHECK.due("insert", frames, x.insert());
        }
    }
}
