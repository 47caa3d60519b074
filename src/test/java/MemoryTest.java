import java.util.NoSuchElementException;

/** Promises 21 commit, 22 boot, 23 spoil. */
public final class MemoryTest {
    private static final Check CHECK = new Check();

    public static void main(String[] args) {
        copiesTakeTurns();
        aCutAheadOfTheMark();
        aCutSpoilsTheOtherCopy();
        noWriteLeavesTheOtherCopyWhole();
        theMemoryComesBack();
        bootLeavesAndResets();
        bootWithoutACopy();
        spoiltPages();
        aWrittenPageIsNotSpoilt();
        versionsCountSpoiltAndPartPages();
        aSpoiltCopyStaysInForce();
        wrongCommits();
        wrongPages();
        CHECK.end("MemoryTest");
    }

    private static void inForce(OrganConsole x, int version, int copy) {
        CHECK.due("version in force", version, x.count(7));
        CHECK.due("copy in force", copy, x.count(10));
    }

    private static void copiesTakeTurns() {
        OrganConsole x = Check.stops(2);
        inForce(x, 0, OrganConsole.NONE);
        CHECK.due("first commit", 1, x.commit(9));
        inForce(x, 1, 0);
        CHECK.due("second commit", 2, x.commit(9));
        inForce(x, 2, 1);
        CHECK.due("third commit", 3, x.commit(9));
        inForce(x, 3, 0);
        CHECK.due("version of copy 0", 3, x.spoil(0, 0));
        CHECK.due("version of copy 1", 2, x.spoil(1, 8));
    }

    private static void aCutAheadOfTheMark() {
        for (int writes = 0; writes < 9; writes++) {
            OrganConsole x = Check.stops(2);
            x.insert();
            CHECK.due("cut behind " + writes, 0, x.commit(writes));
            inForce(x, 0, OrganConsole.NONE);
            CHECK.due("the console has booted", 0, x.count(5));
            for (int page = 0; page < 9; page++) {
                int p = page;
                if (page < writes) {
                    CHECK.due("page was written", 1, x.spoil(0, page));
                } else {
                    CHECK.refused(x, "page " + p + " of copy 0", IllegalStateException.class, () -> x.spoil(0, p));
                }
                CHECK.refused(x, "page " + p + " of copy 1", IllegalStateException.class, () -> x.spoil(1, p));
            }
        }
    }

    private static void aCutSpoilsTheOtherCopy() {
        for (int writes = 1; writes < 9; writes++) {
            OrganConsole x = Check.stops(2);
            x.insert();
            x.commit(9);
            x.insert();
            x.commit(9);
            x.insert();
            CHECK.due("cut behind " + writes, 2, x.commit(writes));
            inForce(x, 2, 1);
            CHECK.due("frames as in copy 1", 2, x.count(5));
            x.spoil(1, 0);
            CHECK.due("copy 0 is not whole", 0, x.boot());
            CHECK.due("no frames", 0, x.count(5));
            CHECK.due("the next version", 4, x.commit(9));
            inForce(x, 4, 0);
        }
    }

    private static void noWriteLeavesTheOtherCopyWhole() {
        OrganConsole x = Check.stops(2);
        x.insert();
        x.commit(9);
        x.insert();
        x.commit(9);
        x.spoil(1, 4);
        x.insert();
        inForce(x, 2, 1);
        CHECK.due("cut ahead of all: copy 0 is the whole one", 1, x.commit(0));
        inForce(x, 1, 0);
        CHECK.due("frames as in copy 0", 1, x.count(5));
        CHECK.due("the version goes on from the greatest", 3, x.commit(9));
        inForce(x, 3, 1);
        CHECK.due("boot", 3, x.boot());
    }

    private static void theMemoryComesBack() {
        OrganConsole x = Check.stops(2);
        x.knob(0, true);
        x.set(0, 15);
        x.set(1, 0);
        x.level(7);
        x.set(0, 0);
        x.set(1, 4);
        x.insert();
        x.knob(1, true);
        x.insert();
        x.assign(1, 0, true);
        x.assign(15, 1, true);
        CHECK.due("commit does not boot", 1, x.commit(9));
        CHECK.due("the cursor stays", 1, x.count(6));
        CHECK.due("the level stays", 7, x.level(0));
        x.set(0, 15);
        x.set(2, 0);
        x.press(2, 1);
        x.delete();
        x.assign(1, 0, false);
        x.assign(15, 1, false);
        x.assign(14, 1, true);
        x.knob(1, false);
        CHECK.due("boot", 1, x.boot());
        CHECK.due("frames", 2, x.count(5));
        CHECK.yes("general", x.lamp(0, 15));
        CHECK.yes("divisional", x.lamp(1, 0));
        CHECK.no("divisional", x.lamp(1, 4));
        CHECK.yes("frame 0", x.lamp(2, 0));
        CHECK.no("frame 1", x.lamp(2, 1));
        x.level(7);
        CHECK.yes("general at level 7", x.lamp(0, 0));
        CHECK.yes("divisional at level 7", x.lamp(1, 4));
        CHECK.no("step 1", x.assign(1, 0, true));
        CHECK.no("step 14", x.assign(14, 1, false));
        CHECK.no("step 15", x.assign(15, 1, true));
        x.knob(1, true);
        CHECK.yes("frame 1", x.lamp(2, 1));
        x.set(2, 0);
        CHECK.due("boot brings it back once more", 1, x.boot());
        CHECK.no("frame 0", x.lamp(2, 0));
    }

    private static void bootLeavesAndResets() {
        OrganConsole x = Check.stops(2);
        x.coupler(0, 1, 0);
        x.tab(0, true);
        x.key(0, 10, true);
        x.knob(0, true);
        x.insert();
        x.assign(3, 1, true);
        x.commit(9);
        x.pedal(3);
        x.fault(0, 5, 2);
        x.fault(1, 1, 1);
        x.press(0, 0);
        x.level(4);
        x.lock(true);
        x.full(true);
        CHECK.due("a pull has begun", 1, x.count(4));
        CHECK.due("boot", 1, x.boot());
        CHECK.due("pulls are dropped", 0, x.count(4));
        CHECK.due("no knob moves", 0, x.tick(3));
        CHECK.due("knobs stay", 1, x.about(0, 0));
        CHECK.due("the cursor", -1, x.count(6));
        CHECK.no("the lock is off", x.lock(false));
        CHECK.no("the full organ is off", x.full(false));
        CHECK.due("the level is 0", 0, x.level(0));
        CHECK.due("stops stay", 2, x.count(0));
        CHECK.due("couplers stay", 1, x.count(1));
        CHECK.no("a coupler stays on", x.tab(0, true));
        CHECK.due("keys stay", 1, x.count(2));
        CHECK.due("the crescendo adds stop 1 still", 1, x.about(1, 1));
        CHECK.due("lines stay", 12, x.test());
        x.fault(0, 5, 0);
        CHECK.due("coils stay", 103, x.test());
        CHECK.due("the pedal stays", 3, x.pedal(0));
    }

    private static void bootWithoutACopy() {
        OrganConsole x = Check.stops(2);
        x.knob(0, true);
        for (int level = 0; level < 8; level++) {
            x.level(level);
            x.set(0, level);
            x.set(1, 0);
        }
        x.insert();
        x.assign(1, 1, true);
        x.pedal(1);
        CHECK.due("boot", 0, x.boot());
        inForce(x, 0, OrganConsole.NONE);
        CHECK.due("frames", 0, x.count(5));
        CHECK.due("the steps are empty", 0, x.about(1, 1));
        x.knob(0, false);
        for (int level = 0; level < 8; level++) {
            x.level(level);
            CHECK.yes("general is empty", x.lamp(0, level));
            CHECK.yes("divisional is empty", x.lamp(1, 0));
        }
    }

    private static void spoiltPages() {
        for (int page = 0; page < 9; page++) {
            OrganConsole x = Check.stops(2);
            x.insert();
            x.commit(9);
            x.insert();
            x.commit(9);
            CHECK.due("spoil", 2, x.spoil(1, page));
            CHECK.due("the older copy is whole", 1, x.boot());
            inForce(x, 1, 0);
            CHECK.due("frames of the older copy", 1, x.count(5));
            CHECK.due("as it was written", 2, x.spoil(1, page));
            CHECK.due("the newer copy is whole again", 2, x.boot());
            inForce(x, 2, 1);
            CHECK.due("frames of the newer copy", 2, x.count(5));
            x.spoil(0, page);
            CHECK.due("the older copy does not matter", 2, x.boot());
            x.spoil(1, 8 - page);
            CHECK.due("none is whole", 0, x.boot());
            inForce(x, 0, OrganConsole.NONE);
        }
    }

    private static void aWrittenPageIsNotSpoilt() {
        OrganConsole x = Check.stops(2);
        x.commit(9);
        x.commit(9);
        x.spoil(0, 2);
        x.spoil(0, 6);
        CHECK.due("three pages are written", 2, x.commit(3));
        CHECK.due("all are written", 4, x.commit(9));
        x.spoil(1, 0);
        CHECK.due("no page of copy 0 is spoilt", 4, x.boot());
        OrganConsole y = Check.stops(2);
        y.commit(9);
        y.spoil(0, 0);
        y.spoil(0, 8);
        CHECK.due("none is whole", 0, y.boot());
        CHECK.due("copy 0 again, for none is in force", 2, y.commit(9));
        inForce(y, 2, 0);
        CHECK.due("boot", 2, y.boot());
    }

    private static void versionsCountSpoiltAndPartPages() {
        OrganConsole x = Check.stops(2);
        x.commit(1);
        x.commit(1);
        CHECK.due("page 0 bears 2", 2, x.spoil(0, 0));
        CHECK.due("a spoilt page's version counts", 3, x.commit(9));
        x.commit(9);
        x.spoil(1, 0);
        x.boot();
        inForce(x, 3, 0);
        CHECK.due("the greater version is of the copy that is not in force", 5, x.commit(9));
        inForce(x, 5, 1);
    }

    private static void aSpoiltCopyStaysInForce() {
        OrganConsole x = Check.stops(2);
        x.insert();
        x.commit(9);
        x.spoil(0, 8);
        inForce(x, 1, 0);
        CHECK.due("frames stay till a boot", 1, x.count(5));
        CHECK.due("the other copy is written", 2, x.commit(9));
        inForce(x, 2, 1);
        CHECK.due("boot", 2, x.boot());
    }

    private static void wrongCommits() {
        OrganConsole x = Check.stops(2);
        x.insert();
        x.commit(9);
        x.lock(true);
        int[] bad = {-1, 10, Integer.MIN_VALUE, Integer.MAX_VALUE};
        for (int writes : bad) {
            CHECK.refused(x, "commit " + writes, IllegalArgumentException.class, () -> x.commit(writes));
        }
        CHECK.refused(x, "copy 1 was never written", IllegalStateException.class, () -> x.spoil(1, 0));
        CHECK.due("the lock keeps no commit", 2, x.commit(9));
        CHECK.no("the lock stays", x.lock(true));
    }

    private static void wrongPages() {
        OrganConsole x = Check.stops(2);
        x.insert();
        x.commit(9);
        x.commit(9);
        int[][] bad = {{-1, 0}, {2, 0}, {0, -1}, {0, 9}, {1, 9}, {Integer.MIN_VALUE, 0}, {Integer.MAX_VALUE, 0},
            {0, Integer.MIN_VALUE}, {1, Integer.MAX_VALUE}};
        for (int[] b : bad) {
            CHECK.refused(x, "spoil " + b[0] + " " + b[1], NoSuchElementException.class, () -> x.spoil(b[0], b[1]));
        }
        CHECK.due("all is whole still", 2, x.boot());
        OrganConsole y = new OrganConsole();
        CHECK.refused(y, "spoil of no copy", NoSuchElementException.class, () -> y.spoil(2, 0));
        CHECK.refused(y, "spoil of no page", NoSuchElementException.class, () -> y.spoil(0, 9));
        CHECK.refused(y, "spoil of a page never written", IllegalStateException.class, () -> y.spoil(0, 8));
    }
}
