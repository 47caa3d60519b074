import java.util.NoSuchElementException;

/** Promises 7 full, 15 pedal, 16 assign, and which stops speak (18 about). */
public final class CrescendoTest {
    private static final Check CHECK = new Check();

    public static void main(String[] args) {
        fullOrganSpeaks();
        thePedalMoves();
        stepsAdd();
        stopsComeAndGo();
        wrongSteps();
        theLockKeepsSteps();
        CHECK.end("CrescendoTest");
    }

    private static void fullOrganSpeaks() {
        OrganConsole x = Check.stops(48);
        x.key(0, 0, true);
        CHECK.no("off at first", x.full(false));
        CHECK.yes("on", x.full(true));
        CHECK.no("on again", x.full(true));
        for (int s = 0; s < 48; s++) {
            CHECK.due("stop " + s + " speaks", 1, x.about(s, 1));
            CHECK.due("its knob is in", 0, x.about(s, 0));
        }
        CHECK.due("open pipes", 10, x.count(8));
        CHECK.yes("a lamp asks knobs alone", x.lamp(0, 0));
        CHECK.due("a set takes knobs alone", 0, x.set(0, 0));
        CHECK.yes("off", x.full(false));
        CHECK.due("open pipes", 0, x.count(8));
    }

    private static void thePedalMoves() {
        OrganConsole x = new OrganConsole();
        CHECK.due("at 0 first", 0, x.pedal(15));
        CHECK.due("at 15", 15, x.pedal(7));
        int[] bad = {-1, 16, Integer.MIN_VALUE, Integer.MAX_VALUE};
        for (int step : bad) {
            CHECK.refused(x, "pedal " + step, IllegalArgumentException.class, () -> x.pedal(step));
        }
        CHECK.due("it stays", 7, x.pedal(7));
        x.lock(true);
        CHECK.due("the lock keeps no pedal", 7, x.pedal(0));
        CHECK.due("at 0", 0, x.pedal(0));
    }

    private static void stepsAdd() {
        OrganConsole x = Check.stops(15);
        for (int step = 1; step <= 15; step++) {
            CHECK.yes("assign", x.assign(step, step - 1, true));
        }
        for (int at = 15; at >= 0; at--) {
            x.pedal(at);
            for (int s = 0; s < 15; s++) {
                CHECK.due("pedal at " + at + ": stop " + s + " speaks", s < at ? 1 : 0, x.about(s, 1));
            }
        }
        CHECK.due("knobs are in", 0, x.count(3));
        x.pedal(3);
        x.key(0, 9, true);
        CHECK.yes("a stop that the crescendo adds has pipes", x.pipe(0, 9));
        x.pedal(0);
        CHECK.no("no more", x.pipe(0, 9));
        x.knob(0, true);
        CHECK.due("a knob that is out speaks at 0 too", 1, x.about(0, 1));
    }

    private static void stopsComeAndGo() {
        OrganConsole x = Check.stops(48);
        CHECK.no("out of a set it is not in", x.assign(15, 47, false));
        CHECK.yes("in", x.assign(15, 47, true));
        CHECK.no("in again", x.assign(15, 47, true));
        CHECK.yes("in another step", x.assign(1, 47, true));
        x.pedal(15);
        CHECK.yes("out of one step", x.assign(15, 47, false));
        CHECK.due("the other step still adds it", 1, x.about(47, 1));
        CHECK.yes("out of the other", x.assign(1, 47, false));
        CHECK.due("none adds it", 0, x.about(47, 1));
        x.level(3);
        CHECK.yes("at a level", x.assign(2, 0, true));
        x.level(0);
        CHECK.no("steps have no level", x.assign(2, 0, true));
    }

    private static void wrongSteps() {
        OrganConsole x = Check.stops(2);
        x.pedal(15);
        int[] bad = {-1, 0, 16, Integer.MIN_VALUE, Integer.MAX_VALUE};
        for (int step : bad) {
            CHECK.refused(x, "assign of step " + step, IllegalArgumentException.class, () -> x.assign(step, 0, true));
            CHECK.refused(x, "no stop comes first", NoSuchElementException.class, () -> x.assign(step, 2, true));
        }
        int[] stops = {-1, 2, 48, Integer.MIN_VALUE, Integer.MAX_VALUE};
        for (int stop : stops) {
            CHECK.refused(x, "assign of stop " + stop, NoSuchElementException.class, () -> x.assign(1, stop, true));
        }
    }

    private static void theLockKeepsSteps() {
        OrganConsole x = Check.stops(2);
        x.pedal(15);
        x.assign(4, 1, true);
        x.lock(true);
        CHECK.refused(x, "assign in, locked", IllegalStateException.class, () -> x.assign(1, 0, true));
        CHECK.refused(x, "assign out, locked", IllegalStateException.class, () -> x.assign(4, 1, false));
        CHECK.refused(x, "step comes first", IllegalArgumentException.class, () -> x.assign(0, 0, true));
        CHECK.refused(x, "stop comes first", NoSuchElementException.class, () -> x.assign(0, 2, true));
    }
}
