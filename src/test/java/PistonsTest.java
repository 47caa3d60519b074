import java.util.List;
import java.util.NoSuchElementException;
import java.util.function.Consumer;

/** Promises 5 knob, 8 press, 9 set, 10 level, 11 lock, 17 tick, 18 about, 20 lamp: pistons and magnets. */
public final class PistonsTest {
    private static final Check CHECK = new Check();

    public static void main(String[] args) {
        knobsTellWhetherTheyWereNotSo();
        knobsThatAreNot();
        pullsTakeThreeTicks();
        ticksInEveryPortion();
        aPullBeginsAnew();
        aPullIsDroppedWhereTheKnobStandsRight();
        aPullOutsideTheScopeGoesOn();
        aHandThatMovesAKnobDropsItsPull();
        aHandThatLeavesAKnobDropsItsPull();
        nothingElseDropsAPull();
        aPullGoesOnWhenItsSetChanges();
        aFaultyCoilEndsThePullWithoutAMove();
        theFaultAtTheThirdTickMatters();
        generalsActOnAllStops();
        divisionalsActOnTheirDivision();
        eachPistonHasASetOfItsOwn();
        setsAreEmptyAtFirst();
        pistonsWithoutStops();
        pistonsOfAllStops();
        aDivisionWithoutStops();
        pressTellsHowManyPullsBegin();
        setTakesKnobsAsTheyStand();
        setTellsHowManyStopsAreInIt();
        setTakesThePlaceOfTheOldSet();
        aStopAddedLaterIsInNoSet();
        lampsAreLitByKnobsWithinTheScope();
        pistonsThatAreNot();
        theLockKeepsSets();
        theLockTellsWhetherItWasNotSo();
        levelsTellWhatTheyWere();
        levelsThatAreNot();
        ticksTellHowOftenAKnobMoved();
        ticksThatAreNot();
        whatAboutTells();
        whatAboutDoesNotTell();
        CHECK.end("PistonsTest");
    }

    private static void knobs(Console x, boolean... out) {
        for (int s = 0; s < out.length; s++) {
            CHECK.due("knob of stop " + s, out[s] ? 1 : 0, x.about(s, 0));
        }
    }

    /** So many stops of all divisions, of which general 0 has all in its set; the knobs are in. */
    private static Console generalOfAll(int size) {
        Console x = Scenes.stops(size);
        for (int s = 0; s < size; s++) {
            x.knob(s, true);
        }
        x.set(0, 0);
        for (int s = 0; s < size; s++) {
            x.knob(s, false);
        }
        return x;
    }

    // "A hand brings a knob out, or in: whether it was not so."
    private static void knobsTellWhetherTheyWereNotSo() {
        Console x = Scenes.stops(5);
        CHECK.no("in at first", x.knob(0, false));
        CHECK.yes("out", x.knob(0, true));
        CHECK.no("out again", x.knob(0, true));
        CHECK.due("knobs out", 1, x.count(3));
        knobs(x, true, false, false, false, false);
        CHECK.yes("in", x.knob(0, false));
        CHECK.no("in again", x.knob(0, false));
        CHECK.due("knobs out", 0, x.count(3));
    }

    private static void knobsThatAreNot() {
        for (Console x : Scenes.all()) {
            for (int stop : Check.outside(0, x.twin().count(0) - 1)) {
                CHECK.refused(x, "knob " + stop + " out", NoSuchElementException.class, c -> c.knob(stop, true));
                CHECK.refused(x, "knob " + stop + " in", NoSuchElementException.class, c -> c.knob(stop, false));
            }
        }
    }

    // "a PULL begins .., which takes three ticks"; "At the third tick the knob comes to be so"
    private static void pullsTakeThreeTicks() {
        Console x = generalOfAll(2);
        x.knob(1, true);
        CHECK.due("press", 1, x.press(0, 0));
        CHECK.due("three ticks till the end", 3, x.about(0, 2));
        CHECK.due("none of the one that stands right", 0, x.about(1, 2));
        CHECK.due("pulls", 1, x.count(4));
        CHECK.due("first tick", 0, x.tick(1));
        CHECK.due("two ticks till the end", 2, x.about(0, 2));
        CHECK.due("second tick", 0, x.tick(1));
        CHECK.due("one tick till the end", 1, x.about(0, 2));
        CHECK.due("pulls", 1, x.count(4));
        knobs(x, false, true);
        CHECK.due("third tick", 1, x.tick(1));
        knobs(x, true, true);
        CHECK.due("the pull has ended", 0, x.about(0, 2));
        CHECK.due("pulls", 0, x.count(4));
        CHECK.due("fourth tick", 0, x.tick(1));
        knobs(x, true, true);
    }

    private static void ticksInEveryPortion() {
        for (int first = 0; first <= 4; first++) {
            for (int second = 0; second <= 4; second++) {
                Console x = generalOfAll(1);
                x.press(0, 0);
                CHECK.due("first " + first, first >= 3 ? 1 : 0, x.tick(first));
                CHECK.due("left", Math.max(0, 3 - first), x.about(0, 2));
                CHECK.due("then " + second, first < 3 && first + second >= 3 ? 1 : 0, x.tick(second));
                CHECK.due("left", Math.max(0, 3 - first - second), x.about(0, 2));
                knobs(x, first + second >= 3);
            }
        }
    }

    // "a PULL begins (anew, if there was one)"
    private static void aPullBeginsAnew() {
        for (int ticks = 0; ticks < 3; ticks++) {
            Console x = generalOfAll(3);
            x.press(0, 0);
            x.tick(ticks);
            CHECK.due("left", 3 - ticks, x.about(2, 2));
            CHECK.due("press", 3, x.press(0, 0));
            CHECK.due("anew", 3, x.about(2, 2));
            CHECK.due("pulls", 3, x.count(4));
            CHECK.due("two ticks", 0, x.tick(2));
            CHECK.due("the third tick", 3, x.tick(1));
            CHECK.due("each knob moves once", 0, x.tick(100));
            knobs(x, true, true, true);
        }
    }

    // "of each other one in the scope a pull that was begun is dropped"
    private static void aPullIsDroppedWhereTheKnobStandsRight() {
        for (int ticks = 0; ticks < 3; ticks++) {
            Console x = generalOfAll(2);
            x.knob(0, true);
            x.set(0, 1);
            x.knob(0, false);
            CHECK.due("press", 2, x.press(0, 0));
            x.tick(ticks);
            CHECK.due("the pull of stop 0 begins anew", 1, x.press(0, 1));
            CHECK.due("anew", 3, x.about(0, 2));
            CHECK.due("dropped", 0, x.about(1, 2));
            CHECK.due("pulls", 1, x.count(4));
            CHECK.due("ticks", 1, x.tick(100));
            knobs(x, true, false);
        }
    }

    private static void aPullOutsideTheScopeGoesOn() {
        Console x = generalOfAll(5);
        x.press(0, 0);
        x.tick(2);
        CHECK.due("divisional of division 3, an empty set", 0, x.press(1, 15));
        CHECK.due("dropped within the scope", 0, x.about(3, 2));
        for (int s = 0; s < 5; s++) {
            CHECK.due("left of stop " + s, s == 3 ? 0 : 1, x.about(s, 2));
        }
        CHECK.due("tick", 4, x.tick(1));
        knobs(x, true, true, true, false, true);
    }

    // "When a hand moves a knob, or leaves it where it is, its pull is dropped."
    private static void aHandThatMovesAKnobDropsItsPull() {
        for (int ticks = 0; ticks < 3; ticks++) {
            Console x = generalOfAll(2);
            x.press(0, 0);
            x.tick(ticks);
            CHECK.yes("a hand moves it", x.knob(0, true));
            CHECK.due("dropped", 0, x.about(0, 2));
            CHECK.due("the other's is not", 3 - ticks, x.about(1, 2));
            CHECK.due("ticks", 1, x.tick(3));
            knobs(x, true, true);
        }
    }

    private static void aHandThatLeavesAKnobDropsItsPull() {
        for (int ticks = 0; ticks < 3; ticks++) {
            Console x = generalOfAll(2);
            x.press(0, 0);
            x.tick(ticks);
            CHECK.no("a hand leaves it", x.knob(0, false));
            CHECK.due("dropped", 0, x.about(0, 2));
            CHECK.due("the other's is not", 3 - ticks, x.about(1, 2));
            CHECK.due("pulls", 1, x.count(4));
            CHECK.due("ticks", 1, x.tick(3));
            knobs(x, false, true);
        }
    }

    // Only a recall, a hand and a boot drop pulls; the document lets no other call do so.
    private static void nothingElseDropsAPull() {
        List<Consumer<Face>> others = List.of(
            x -> x.stop(0, 0, 0, 96), x -> x.coupler(0, 1, 0), x -> x.key(0, 0, true), x -> x.full(true),
            x -> x.set(0, 0), x -> x.set(1, 0), x -> x.level(7), x -> x.lock(true), x -> x.insert(),
            x -> x.pedal(15), x -> x.assign(1, 0, true), x -> x.tick(0), x -> x.about(0, 2), x -> x.pipe(0, 0),
            x -> x.lamp(0, 0), x -> x.commit(9), x -> x.fault(0, 0, 1), x -> x.fault(1, 0, 0), x -> x.test(),
            x -> x.count(4), x -> x.knob(1, true), x -> x.press(1, 5),
            x -> {
                x.coupler(0, 1, 0);
                x.tab(0, true);
            },
            x -> {
                x.commit(9);
                x.spoil(0, 0);
            },
            x -> {
                x.insert();
                x.delete();
            });
        for (int i = 0; i < others.size(); i++) {
            Console x = generalOfAll(2);
            x.press(0, 0);
            x.tick(1);
            others.get(i).accept(x);
            CHECK.due("left behind call " + i, 2, x.about(0, 2));
            x.tick(1);
            CHECK.due("in still behind call " + i, 0, x.about(0, 0));
            x.tick(1);
            CHECK.due("out behind call " + i, 1, x.about(0, 0));
        }
    }

    // "At the third tick the knob comes to be so": as the set that was recalled has it
    private static void aPullGoesOnWhenItsSetChanges() {
        Console x = generalOfAll(2);
        CHECK.due("press", 2, x.press(0, 0));
        CHECK.due("the set is empty now", 0, x.set(0, 0));
        CHECK.yes("lamp", x.lamp(0, 0));
        CHECK.due("ticks", 2, x.tick(3));
        knobs(x, true, true);
        CHECK.due("press of the empty set", 2, x.press(0, 0));
        CHECK.due("the set is of both now", 2, x.set(0, 0));
        CHECK.due("ticks", 2, x.tick(3));
        knobs(x, false, false);
    }

    // "(if its coil has a fault, it stays as it is, and the pull has ended)"
    private static void aFaultyCoilEndsThePullWithoutAMove() {
        for (int how = 1; how <= 2; how++) {
            Console x = generalOfAll(2);
            x.fault(1, 0, how);
            CHECK.due("pulls begin all the same", 2, x.press(0, 0));
            CHECK.due("left", 3, x.about(0, 2));
            CHECK.due("two ticks", 0, x.tick(2));
            CHECK.due("left", 1, x.about(0, 2));
            CHECK.due("one knob moves", 1, x.tick(1));
            knobs(x, false, true);
            CHECK.due("the pull has ended", 0, x.about(0, 2));
            CHECK.due("pulls", 0, x.count(4));
            x.fault(1, 0, 0);
            CHECK.due("an ended pull does not go on", 0, x.tick(100));
            knobs(x, false, true);
            CHECK.due("press again", 1, x.press(0, 0));
            CHECK.due("tick", 1, x.tick(3));
            x.fault(1, 0, how);
            CHECK.yes("a hand moves a knob with a faulty coil", x.knob(0, false));
        }
    }

    private static void theFaultAtTheThirdTickMatters() {
        Console x = generalOfAll(3);
        x.fault(1, 0, 1);
        x.press(0, 0);
        x.tick(2);
        x.fault(1, 0, 0);
        x.fault(1, 1, 2);
        x.fault(0, 2, 1);
        CHECK.due("mended ahead of it, broken ahead of it, a line alone", 2, x.tick(1));
        knobs(x, true, false, true);
    }

    // "GENERAL ones (kind 0) 0 .. 15, whose scope is all stops"
    private static void generalsActOnAllStops() {
        for (int p = 0; p < 16; p++) {
            Console x = Scenes.stops(7);
            for (int s = 0; s < 7; s += 2) {
                x.knob(s, true);
            }
            CHECK.due("set of general " + p, 4, x.set(0, p));
            for (int s = 0; s < 7; s++) {
                x.knob(s, s % 2 == 1);
            }
            CHECK.due("press of general " + p, 7, x.press(0, p));
            CHECK.due("ticks", 7, x.tick(3));
            knobs(x, true, false, true, false, true, false, true);
        }
    }

    // "DIVISIONAL ones (kind 1) 0 .. 24, whose scope are the stops of division p / 5"
    private static void divisionalsActOnTheirDivision() {
        for (int p = 0; p < 25; p++) {
            Console x = Scenes.stops(10);
            for (int s = 0; s < 10; s++) {
                x.knob(s, true);
            }
            CHECK.due("set of divisional " + p, 2, x.set(1, p));
            for (int s = 0; s < 10; s++) {
                x.knob(s, false);
            }
            CHECK.no("lamp", x.lamp(1, p));
            CHECK.due("press of divisional " + p, 2, x.press(1, p));
            CHECK.due("ticks", 2, x.tick(3));
            CHECK.due("a stop of division p / 5", 1, x.about(p / 5, 0));
            CHECK.due("the other stop of division p / 5", 1, x.about(5 + p / 5, 0));
            CHECK.due("no more", 2, x.count(3));
            CHECK.yes("lamp", x.lamp(1, p));
        }
    }

    // "Each has a set for each LEVEL 0 .. 7"
    private static void eachPistonHasASetOfItsOwn() {
        for (int level = 0; level < 8; level++) {
            for (int p = 0; p < 25; p++) {
                onlyOneIsSet(1, level, p);
                if (p < 16) {
                    onlyOneIsSet(0, level, p);
                }
            }
        }
    }

    /** With all knobs in, every lamp is lit but that of the one piston whose set is not empty. */
    private static void onlyOneIsSet(int kind, int level, int p) {
        Console x = Scenes.stops(5);
        int stop = kind == 1 ? p / 5 : p % 5;
        x.knob(stop, true);
        x.level(level);
        CHECK.due("set", 1, x.set(kind, p));
        x.knob(stop, false);
        for (int l = 0; l < 8; l++) {
            x.level(l);
            for (int q = 0; q < 25; q++) {
                boolean here = l == level && q == p;
                CHECK.due("divisional " + q + " at " + l, here && kind == 1 ? 0 : 1, x.lamp(1, q) ? 1 : 0);
                if (q < 16) {
                    CHECK.due("general " + q + " at " + l, here && kind == 0 ? 0 : 1, x.lamp(0, q) ? 1 : 0);
                }
            }
        }
    }

    // "with no stop in it at first"
    private static void setsAreEmptyAtFirst() {
        Console x = Scenes.stops(5);
        for (int s = 0; s < 5; s++) {
            x.knob(s, true);
        }
        for (int level = 0; level < 8; level++) {
            x.level(level);
            for (int p = 0; p < 25; p++) {
                CHECK.due("a divisional brings its stop in", 1, x.press(1, p));
                if (p < 16) {
                    CHECK.due("a general brings all stops in", 5, x.press(0, p));
                }
            }
        }
        CHECK.due("ticks", 5, x.tick(3));
        CHECK.due("all are in", 0, x.count(3));
    }

    private static void pistonsWithoutStops() {
        Console x = new Console();
        for (int p = 0; p < 25; p++) {
            CHECK.due("press of a divisional", 0, x.press(1, p));
            CHECK.due("set of a divisional", 0, x.set(1, p));
            CHECK.yes("lamp of a divisional", x.lamp(1, p));
            if (p < 16) {
                CHECK.due("press of a general", 0, x.press(0, p));
                CHECK.due("set of a general", 0, x.set(0, p));
                CHECK.yes("lamp of a general", x.lamp(0, p));
            }
        }
        CHECK.due("ticks", 0, x.tick(100));
        CHECK.due("pulls", 0, x.count(4));
    }

    private static void pistonsOfAllStops() {
        Console x = generalOfAll(48);
        CHECK.due("press", 48, x.press(0, 0));
        CHECK.due("pulls", 48, x.count(4));
        CHECK.due("ticks", 48, x.tick(3));
        CHECK.due("all are out", 48, x.count(3));
        CHECK.yes("lamp", x.lamp(0, 0));
        CHECK.due("set", 48, x.set(0, 15));
        CHECK.due("set of the pedal's division", 9, x.set(1, 24));
        CHECK.due("set of division 0", 10, x.set(1, 0));
        CHECK.due("press of an empty one", 48, x.press(0, 1));
        CHECK.due("ticks", 48, x.tick(100));
        CHECK.due("all are in", 0, x.count(3));
    }

    private static void aDivisionWithoutStops() {
        Console x = Scenes.stops(4);
        for (int s = 0; s < 4; s++) {
            x.knob(s, true);
        }
        CHECK.due("set", 0, x.set(1, 20));
        CHECK.due("press", 0, x.press(1, 24));
        CHECK.yes("lamp", x.lamp(1, 22));
        CHECK.due("pulls", 0, x.count(4));
    }

    // "Recalls the set of a piston at the level (kind 0, 1) ..: how many pulls begin."
    private static void pressTellsHowManyPullsBegin() {
        Console x = generalOfAll(5);
        CHECK.due("five are not so", 5, x.press(0, 0));
        x.knob(1, true);
        x.knob(4, true);
        CHECK.due("three are not so", 3, x.press(0, 0));
        x.tick(3);
        CHECK.due("none is not so", 0, x.press(0, 0));
        CHECK.due("the divisional's stop is not so", 1, x.press(1, 9));
        x.level(1);
        CHECK.due("at another level the set is another", 5, x.press(0, 0));
        x.level(0);
        CHECK.due("back at the level", 0, x.press(0, 0));
        CHECK.due("a press brings no cursor", -1, x.count(6));
    }

    // "The knobs as they stand, within the scope, become the set of a piston at the level"
    private static void setTakesKnobsAsTheyStand() {
        Console x = generalOfAll(5);
        x.knob(0, true);
        x.press(0, 0);
        x.full(true);
        x.assign(1, 3, true);
        x.pedal(1);
        CHECK.due("no pull, no crescendo, no full organ counts", 1, x.set(0, 1));
        CHECK.yes("lamp", x.lamp(0, 1));
        CHECK.due("a set drops no pull", 4, x.count(4));
        x.tick(3);
        CHECK.no("lamp", x.lamp(0, 1));
        CHECK.due("press", 4, x.press(0, 1));
        x.tick(3);
        knobs(x, true, false, false, false, false);
    }

    // "how many stops are in it"
    private static void setTellsHowManyStopsAreInIt() {
        Console x = Scenes.stops(7);
        for (int s = 0; s < 7; s++) {
            x.knob(s, s != 3);
        }
        CHECK.due("general", 6, x.set(0, 0));
        CHECK.due("division 0", 2, x.set(1, 4));
        CHECK.due("division 1", 2, x.set(1, 5));
        CHECK.due("division 2", 1, x.set(1, 14));
        CHECK.due("division 3", 0, x.set(1, 15));
        CHECK.due("division 4", 1, x.set(1, 20));
    }

    private static void setTakesThePlaceOfTheOldSet() {
        Console x = generalOfAll(5);
        x.knob(2, true);
        CHECK.due("set", 1, x.set(0, 0));
        CHECK.yes("lamp", x.lamp(0, 0));
        x.knob(2, false);
        CHECK.due("an empty set", 0, x.set(0, 0));
        CHECK.yes("lamp", x.lamp(0, 0));
    }

    private static void aStopAddedLaterIsInNoSet() {
        Console x = generalOfAll(5);
        x.press(0, 0);
        x.tick(3);
        x.set(1, 0);
        int late = x.stop(0, 0, 0, 96);
        CHECK.yes("lamp, the new knob is in", x.lamp(0, 0));
        x.knob(late, true);
        CHECK.no("lamp of the general", x.lamp(0, 0));
        CHECK.no("lamp of the divisional", x.lamp(1, 0));
        CHECK.due("press", 1, x.press(1, 0));
        CHECK.due("tick", 1, x.tick(3));
        CHECK.due("it is in", 0, x.about(late, 0));
    }

    // "within its scope, the knobs stand just as its set has it"
    private static void lampsAreLitByKnobsWithinTheScope() {
        Console x = generalOfAll(6);
        CHECK.yes("an empty set, all knobs in", x.lamp(0, 15));
        x.press(0, 0);
        x.tick(2);
        CHECK.no("pulled, but not there yet", x.lamp(0, 0));
        x.tick(1);
        CHECK.yes("there", x.lamp(0, 0));
        x.knob(5, false);
        CHECK.no("one too few", x.lamp(0, 0));
        x.set(0, 1);
        x.knob(5, true);
        CHECK.no("one too many", x.lamp(0, 1));
        CHECK.no("a divisional, one too many", x.lamp(1, 2));
        x.knob(0, false);
        x.knob(5, false);
        CHECK.yes("a divisional, knobs out outside its scope", x.lamp(1, 2));
        x.full(true);
        CHECK.yes("the full organ moves no knob", x.lamp(1, 2));
        x.level(6);
        CHECK.no("at the level: its set is another", x.lamp(0, 0));
    }

    private static void pistonsThatAreNot() {
        for (Console x : Scenes.all()) {
            int frames = x.twin().count(5);
            for (int kind : Check.outside(0, 2)) {
                pistonIsNot(x, kind, 0);
                pistonIsNot(x, kind, -1);
            }
            for (int p : Check.outside(0, 15)) {
                pistonIsNot(x, 0, p);
            }
            for (int p : Check.outside(0, 24)) {
                pistonIsNot(x, 1, p);
            }
            for (int p : Check.outside(0, frames - 1)) {
                pistonIsNot(x, 2, p);
            }
        }
    }

    private static void pistonIsNot(Console x, int kind, int p) {
        String told = " of kind " + kind + " number " + p;
        CHECK.refused(x, "press" + told, NoSuchElementException.class, c -> c.press(kind, p));
        CHECK.refused(x, "set" + told, NoSuchElementException.class, c -> c.set(kind, p));
        CHECK.refused(x, "lamp" + told, NoSuchElementException.class, c -> c.lamp(kind, p));
        Console locked = x.twin();
        locked.lock(true);
        CHECK.refused(locked, "set, locked," + told, NoSuchElementException.class, c -> c.set(kind, p));
    }

    // "IllegalStateException: the lock is on."
    private static void theLockKeepsSets() {
        for (Console x : new Console[] {Scenes.busy(), Scenes.full()}) {
            x.lock(true);
            for (int kind = 0; kind < 3; kind++) {
                int k = kind;
                int last = kind == 0 ? 15 : kind == 1 ? 24 : x.twin().count(5) - 1;
                CHECK.refused(x, "first set, locked, of kind " + k, IllegalStateException.class, c -> c.set(k, 0));
                CHECK.refused(x, "last set, locked, of kind " + k, IllegalStateException.class, c -> c.set(k, last));
            }
            x.lock(false);
            CHECK.due("set, unlocked", x.twin().count(3), x.set(0, 0));
        }
        Console x = generalOfAll(5);
        x.lock(true);
        CHECK.due("the lock keeps no press", 5, x.press(0, 0));
        CHECK.due("the lock keeps no level", 0, x.level(2));
        CHECK.due("the lock keeps no tick", 5, x.tick(3));
        CHECK.yes("the lock keeps no knob", x.knob(0, false));
    }

    // "The lock is on, or off: whether it was not so."
    private static void theLockTellsWhetherItWasNotSo() {
        Console x = new Console();
        CHECK.no("off at first", x.lock(false));
        CHECK.yes("on", x.lock(true));
        CHECK.no("on again", x.lock(true));
        CHECK.yes("off", x.lock(false));
        CHECK.no("off again", x.lock(false));
        CHECK.due("set", 0, x.set(0, 0));
    }

    // "LEVEL 0 .. 7 (0 at first)"; "The level: what it was."
    private static void levelsTellWhatTheyWere() {
        Console x = new Console();
        CHECK.due("0 at first", 0, x.level(0));
        for (int n = 0; n < 8; n++) {
            CHECK.due("what it was", Math.max(0, n - 1), x.level(n));
            CHECK.due("the same again", n, x.level(n));
        }
        CHECK.due("the last", 7, x.level(0));
    }

    // "IllegalArgumentException: n is not 0 .. 7."
    private static void levelsThatAreNot() {
        for (Console x : Scenes.all()) {
            for (int n : Check.outside(0, 7)) {
                CHECK.refused(x, "level " + n, IllegalArgumentException.class, c -> c.level(n));
            }
        }
    }

    // "So many ticks: how often a magnet moved a knob."
    private static void ticksTellHowOftenAKnobMoved() {
        Console x = generalOfAll(5);
        x.press(1, 0);
        CHECK.due("no pull", 0, x.tick(100));
        x.press(0, 0);
        x.tick(1);
        x.knob(0, true);
        x.press(1, 0);
        CHECK.due("no tick", 0, x.tick(0));
        CHECK.due("no tick moves nothing on", 2, x.about(1, 2));
        CHECK.due("a pull that begins anew has three ticks", 3, x.about(0, 2));
        CHECK.due("two ticks: the four that began first", 4, x.tick(2));
        CHECK.due("one tick: the one that began last", 1, x.tick(1));
        knobs(x, false, true, true, true, true);
        x.press(0, 1);
        CHECK.due("a hundred ticks move each knob once", 4, x.tick(100));
    }

    // "IllegalArgumentException: n is not 0 .. 100."
    private static void ticksThatAreNot() {
        for (Console x : Scenes.all()) {
            for (int n : Check.outside(0, 100)) {
                CHECK.refused(x, "tick " + n, IllegalArgumentException.class, c -> c.tick(n));
            }
        }
    }

    // "Of a stop: 0 1 if its knob is out, else 0, 1 1 if it speaks, 2 ticks till its pull ends, 3 .. pipes .. open."
    private static void whatAboutTells() {
        Console x = Scenes.stops(5);
        x.knob(0, true);
        x.key(0, 5, true);
        x.key(0, 6, true);
        x.press(0, 0);
        int[] told = {1, 1, 3, 2};
        for (int what = 0; what < 4; what++) {
            CHECK.due("about 0 " + what, told[what], x.about(0, what));
            CHECK.due("about 1 " + what, 0, x.about(1, what));
        }
        x.tick(3);
        for (int what = 0; what < 4; what++) {
            CHECK.due("about 0 " + what + ", the knob is in", 0, x.about(0, what));
        }
    }

    // "NoSuchElementException; IllegalArgumentException: none of these."
    private static void whatAboutDoesNotTell() {
        for (Console x : Scenes.all()) {
            int stops = x.twin().count(0);
            for (int what : Check.outside(0, 3)) {
                if (stops > 0) {
                    CHECK.refused(x, "about 0 " + what, IllegalArgumentException.class, c -> c.about(0, what));
                    CHECK.refused(x, "about the last " + what, IllegalArgumentException.class, c -> c.about(stops - 1, what));
                }
                for (int stop : Check.outside(0, stops - 1)) {
                    CHECK.refused(x, "about " + stop + " " + what, NoSuchElementException.class, c -> c.about(stop, what));
                }
            }
            for (int stop : Check.outside(0, stops - 1)) {
                CHECK.refused(x, "about " + stop, NoSuchElementException.class, c -> c.about(stop, 0));
            }
        }
    }
}
