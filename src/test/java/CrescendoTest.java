import java.util.NoSuchElementException;

/** Promises 7 full, 15 pedal, 16 assign, and which stops speak (18 about). */
public final class CrescendoTest {
    private static final Check CHECK = new Check();

    public static void main(String[] args) {
        fullTellsWhetherItWasNotSo();
        fullLetsAllStopsSpeak();
        fullWithoutStops();
        thePedalTellsWhereItWas();
        thePedalGoesNoFurther();
        eachStepAddsItsStops();
        noStepMovesAKnob();
        assignTellsWhetherItWasNotSo();
        eachStepHasASetOfItsOwn();
        stopsOfTwoSteps();
        stepsHaveNoLevel();
        stepsThatAreNot();
        stopsThatAreNot();
        theLockKeepsSteps();
        CHECK.end("CrescendoTest");
    }

    // "The full organ is on, or off, from now on: whether it was not so."
    private static void fullTellsWhetherItWasNotSo() {
        Console x = new Console();
        CHECK.no("off at first", x.full(false));
        CHECK.yes("on", x.full(true));
        CHECK.no("on again", x.full(true));
        CHECK.yes("off", x.full(false));
        CHECK.no("off again", x.full(false));
    }

    private static void fullLetsAllStopsSpeak() {
        Console x = Scenes.stops(48);
        x.key(0, 0, true);
        x.full(true);
        for (int s = 0; s < 48; s++) {
            CHECK.due("stop " + s + " speaks", 1, x.about(s, 1));
            CHECK.due("its knob is in", 0, x.about(s, 0));
        }
        CHECK.due("open pipes", 10, x.count(8));
        CHECK.due("knobs", 0, x.count(3));
        CHECK.yes("a lamp asks knobs alone", x.lamp(0, 0));
        CHECK.due("a set takes knobs alone", 0, x.set(0, 0));
        x.full(false);
        for (int s = 0; s < 48; s++) {
            CHECK.due("stop " + s + " does not speak", 0, x.about(s, 1));
        }
        CHECK.due("open pipes", 0, x.count(8));
    }

    private static void fullWithoutStops() {
        Console x = new Console();
        x.full(true);
        x.key(0, 0, true);
        CHECK.due("open pipes", 0, x.count(8));
        x.stop(0, 0, 0, 96);
        CHECK.due("a stop added later speaks", 1, x.about(0, 1));
        CHECK.due("open pipes", 1, x.count(8));
    }

    // "The crescendo pedal comes to a step, or to 0: where it was."
    private static void thePedalTellsWhereItWas() {
        Console x = new Console();
        CHECK.due("at 0 first", 0, x.pedal(0));
        for (int step = 0; step <= 15; step++) {
            CHECK.due("where it was", Math.max(0, step - 1), x.pedal(step));
        }
        CHECK.due("where it stays", 15, x.pedal(15));
        CHECK.due("back to 0", 15, x.pedal(0));
        x.lock(true);
        CHECK.due("the lock keeps no pedal", 0, x.pedal(7));
        CHECK.due("it went", 7, x.pedal(0));
    }

    // "IllegalArgumentException: step is not 0 .. 15."
    private static void thePedalGoesNoFurther() {
        for (Console x : Scenes.all()) {
            for (int step : Check.outside(0, 15)) {
                CHECK.refused(x, "pedal " + step, IllegalArgumentException.class, c -> c.pedal(step));
            }
        }
    }

    // "the pedal at k (0 at first) adds what is in the sets of the steps 1 .. k"
    private static void eachStepAddsItsStops() {
        Console x = Scenes.stops(15);
        for (int step = 1; step <= 15; step++) {
            CHECK.yes("assign", x.assign(step, step - 1, true));
        }
        for (int s = 0; s < 15; s++) {
            CHECK.due("at 0 first: stop " + s, 0, x.about(s, 1));
        }
        for (int at = 15; at >= 0; at--) {
            x.pedal(at);
            for (int s = 0; s < 15; s++) {
                CHECK.due("pedal at " + at + ": stop " + s + " speaks", s < at ? 1 : 0, x.about(s, 1));
            }
        }
    }

    private static void noStepMovesAKnob() {
        Console x = Scenes.stops(2);
        x.assign(3, 0, true);
        x.pedal(3);
        x.key(0, 9, true);
        CHECK.due("it speaks", 1, x.about(0, 1));
        CHECK.yes("its pipe is open", x.pipe(0, 9));
        CHECK.due("its knob is in", 0, x.about(0, 0));
        CHECK.due("knobs", 0, x.count(3));
        CHECK.due("pulls", 0, x.count(4));
        CHECK.due("a set takes knobs alone", 0, x.set(0, 0));
        x.pedal(2);
        CHECK.no("its pipe is closed", x.pipe(0, 9));
        x.knob(0, true);
        CHECK.due("a knob that is out speaks without it", 1, x.about(0, 1));
    }

    // "A stop comes into the set of a step, or out of it: whether it was not so."
    private static void assignTellsWhetherItWasNotSo() {
        for (int step = 1; step <= 15; step += 14) {
            for (int stop = 0; stop < 48; stop += 47) {
                Console x = Scenes.stops(48);
                CHECK.no("out at first", x.assign(step, stop, false));
                CHECK.yes("in", x.assign(step, stop, true));
                CHECK.no("in again", x.assign(step, stop, true));
                x.pedal(15);
                CHECK.due("it speaks", 1, x.about(stop, 1));
                CHECK.due("no other does", 0, x.about(24, 1));
                CHECK.yes("out", x.assign(step, stop, false));
                CHECK.no("out again", x.assign(step, stop, false));
                CHECK.due("it does not speak", 0, x.about(stop, 1));
            }
        }
    }

    private static void eachStepHasASetOfItsOwn() {
        for (int step = 1; step <= 15; step++) {
            Console x = Scenes.stops(3);
            x.assign(step, 1, true);
            for (int other = 1; other <= 15; other++) {
                CHECK.due("step " + other, other == step ? 1 : 0, x.assign(other, 1, false) ? 1 : 0);
                CHECK.no("another stop", x.assign(other, 0, false));
                CHECK.no("another stop", x.assign(other, 2, false));
            }
        }
    }

    private static void stopsOfTwoSteps() {
        Console x = Scenes.stops(1);
        x.assign(1, 0, true);
        x.assign(15, 0, true);
        x.pedal(15);
        CHECK.yes("out of one step", x.assign(15, 0, false));
        CHECK.due("the other still adds it", 1, x.about(0, 1));
        CHECK.yes("out of the other", x.assign(1, 0, false));
        CHECK.due("none adds it", 0, x.about(0, 1));
    }

    private static void stepsHaveNoLevel() {
        Console x = Scenes.stops(1);
        x.level(3);
        CHECK.yes("at a level", x.assign(2, 0, true));
        x.level(0);
        CHECK.no("at another", x.assign(2, 0, true));
    }

    // "IllegalArgumentException: step is not 1 .. 15."
    private static void stepsThatAreNot() {
        for (Console x : new Console[] {Scenes.busy(), Scenes.full()}) {
            int last = x.twin().count(0) - 1;
            Console locked = x.twin();
            locked.lock(true);
            for (int step : Check.outside(1, 15)) {
                String told = "assign of step " + step;
                CHECK.refused(x, told, IllegalArgumentException.class, c -> c.assign(step, 0, true));
                CHECK.refused(x, told, IllegalArgumentException.class, c -> c.assign(step, last, false));
                CHECK.refused(locked, told + ", locked", IllegalArgumentException.class, c -> c.assign(step, 0, true));
            }
        }
    }

    // "NoSuchElementException: stop."
    private static void stopsThatAreNot() {
        for (Console x : Scenes.all()) {
            Console locked = x.twin();
            locked.lock(true);
            for (int stop : Check.outside(0, x.twin().count(0) - 1)) {
                String told = "assign of stop " + stop;
                CHECK.refused(x, told, NoSuchElementException.class, c -> c.assign(1, stop, true));
                CHECK.refused(x, told + " to step 0", NoSuchElementException.class, c -> c.assign(0, stop, true));
                CHECK.refused(x, told + " to step 16", NoSuchElementException.class, c -> c.assign(16, stop, false));
                CHECK.refused(locked, told + ", locked", NoSuchElementException.class, c -> c.assign(1, stop, true));
            }
        }
    }

    // "IllegalStateException: the lock is on."
    private static void theLockKeepsSteps() {
        for (Console x : new Console[] {Scenes.busy(), Scenes.full()}) {
            x.lock(true);
            for (int step = 1; step <= 15; step += 7) {
                int s = step;
                CHECK.refused(x, "assign in, locked", IllegalStateException.class, c -> c.assign(s, 3, true));
                CHECK.refused(x, "assign out, locked", IllegalStateException.class, c -> c.assign(s, 3, false));
            }
            x.lock(false);
            CHECK.yes("unlocked", x.assign(15, 3, true));
        }
    }
}
