import java.util.NoSuchElementException;

/** Promises 21 commit, 22 boot, 23 spoil: the memory, its two copies and their pages. */
public final class MemoryTest {
    private static final Check CHECK = new Check();

    public static void main(String[] args) {
        nothingIsWrittenAtFirst();
        commitsTakeTurns();
        commitWritesTheCopyThatIsNotInForce();
        withNoneInForceCopyZeroIsWritten();
        pageZeroFirstTheMarkLast();
        aCutAheadOfTheMarkBoots();
        aCutAheadOfAllWritesLeavesTheCopiesAlone();
        theVersionIsOneMoreThanTheGreatest();
        aWrittenPageIsNotSpoilt();
        aWholeCommitDoesNotBoot();
        theLockKeepsNoCommit();
        commitsThatAreNot();
        aCopyIsWholeOfNineOfOneVersion();
        aSpoiltPageMakesACopyNotWhole();
        theGreaterVersionIsInForce();
        withNoneWholeTheMemoryIsEmpty();
        theMemoryIsAsItWasWritten();
        everySetComesBack();
        aHundredFramesComeBack();
        eachCopyHasItsOwn();
        bootDropsAndResets();
        bootLeavesTheRest();
        spoilTurnsAPageOverAndBack();
        aSpoiltCopyStaysInForceTillABoot();
        pagesNeverWritten();
        pagesThatAreNot();
        CHECK.end("MemoryTest");
    }

    private static void inForce(Console x, int version, int copy) {
        CHECK.due("version in force", version, x.count(7));
        CHECK.due("copy in force", copy, x.count(10));
    }

    /** A console whose commits can be told apart by frames: as many are written as there were commits. */
    private static Console commits(int size) {
        Console x = Scenes.stops(2);
        for (int i = 1; i <= size; i++) {
            x.insert();
            CHECK.due("commit", i, x.commit(9));
        }
        return x;
    }

    /** The version of each page of a copy must be this, 0 for one never written. */
    private static void pages(Console x, int copy, int... versions) {
        Console twin = x.twin();
        for (int page = 0; page < 9; page++) {
            int p = page;
            String due = versions[page] == 0 ? "IllegalStateException" : String.valueOf(versions[page]);
            CHECK.same("page " + page + " of copy " + copy, due, Check.outcome(() -> twin.spoil(copy, p)));
        }
    }

    /** The versions of pages of which so many bear the new one, the others the old. */
    private static int[] versions(int writes, int written, int old) {
        int[] versions = new int[9];
        for (int page = 0; page < 9; page++) {
            versions[page] = page < writes ? written : old;
        }
        return versions;
    }

    // "each of these bears a VERSION (0: never written)"; "(none at first; the version is 0 then)"
    private static void nothingIsWrittenAtFirst() {
        Console x = new Console();
        inForce(x, 0, OrganConsole.NONE);
        pages(x, 0, new int[9]);
        pages(x, 1, new int[9]);
        CHECK.due("boot", 0, x.boot());
        inForce(x, 0, OrganConsole.NONE);
        CHECK.due("commit of nothing", 1, x.commit(9));
        inForce(x, 1, 0);
        CHECK.due("boot", 1, x.boot());
        CHECK.due("no frames", 0, x.count(5));
    }

    // "A commit ..: the version that is in force then"
    private static void commitsTakeTurns() {
        Console x = new Console();
        for (int version = 1; version <= 100; version++) {
            CHECK.due("commit", version, x.commit(9));
            inForce(x, version, (version + 1) % 2);
        }
        pages(x, 0, versions(9, 99, 0));
        pages(x, 1, versions(9, 100, 0));
    }

    // "to the copy that is not in force"
    private static void commitWritesTheCopyThatIsNotInForce() {
        Console x = commits(1);
        pages(x, 0, versions(9, 1, 0));
        pages(x, 1, new int[9]);
        x.commit(9);
        pages(x, 0, versions(9, 1, 0));
        pages(x, 1, versions(9, 2, 0));
        x.spoil(1, 5);
        CHECK.due("copy 0 is in force by a boot", 1, x.boot());
        CHECK.due("copy 1 is written again", 3, x.commit(9));
        inForce(x, 3, 1);
        pages(x, 0, versions(9, 1, 0));
        pages(x, 1, versions(9, 3, 0));
    }

    // "(to copy 0, if none is)"
    private static void withNoneInForceCopyZeroIsWritten() {
        Console x = commits(2);
        x.spoil(0, 0);
        x.spoil(1, 8);
        CHECK.due("none is whole", 0, x.boot());
        CHECK.due("commit", 3, x.commit(9));
        inForce(x, 3, 0);
        pages(x, 0, versions(9, 3, 0));
        pages(x, 1, versions(9, 2, 0));
        Console y = new Console();
        CHECK.due("cut", 0, y.commit(4));
        CHECK.due("cut", 0, y.commit(2));
        pages(y, 0, 2, 2, 1, 1, 0, 0, 0, 0, 0);
        pages(y, 1, new int[9]);
        CHECK.due("commit", 3, y.commit(9));
        inForce(y, 3, 0);
    }

    // "page 0 first, the mark last"; "power is cut behind so many of its nine writes (9: it is not cut)"
    private static void pageZeroFirstTheMarkLast() {
        for (int writes = 0; writes <= 9; writes++) {
            Console x = new Console();
            CHECK.due("cut behind " + writes, writes == 9 ? 1 : 0, x.commit(writes));
            inForce(x, writes == 9 ? 1 : 0, writes == 9 ? 0 : OrganConsole.NONE);
            pages(x, 0, versions(writes, 1, 0));
            pages(x, 1, new int[9]);
            Console y = commits(2);
            CHECK.due("cut behind " + writes, writes == 9 ? 3 : 2, y.commit(writes));
            inForce(y, writes == 9 ? 3 : 2, writes == 9 ? 0 : 1);
            pages(y, 0, versions(writes, 3, 1));
            pages(y, 1, versions(9, 2, 0));
        }
    }

    // "If power is cut ahead of the mark, the console boots."
    private static void aCutAheadOfTheMarkBoots() {
        for (int writes = 0; writes < 9; writes++) {
            Console x = commits(2);
            x.insert();
            x.knob(0, true);
            x.press(0, 0);
            x.level(5);
            x.lock(true);
            x.full(true);
            CHECK.due("cut behind " + writes, 2, x.commit(writes));
            inForce(x, 2, 1);
            CHECK.due("frames as they were written", 2, x.count(5));
            CHECK.due("cursor", -1, x.count(6));
            CHECK.due("pulls", 0, x.count(4));
            CHECK.due("level", 0, x.level(0));
            CHECK.no("lock", x.lock(false));
            CHECK.no("full", x.full(false));
            CHECK.due("the knob stays", 1, x.about(0, 0));
        }
    }

    private static void aCutAheadOfAllWritesLeavesTheCopiesAlone() {
        Console x = commits(2);
        x.spoil(1, 4);
        inForce(x, 2, 1);
        CHECK.due("copy 0 is the whole one", 1, x.commit(0));
        inForce(x, 1, 0);
        CHECK.due("frames as in copy 0", 1, x.count(5));
        CHECK.due("mended", 2, x.spoil(1, 4));
        CHECK.due("copy 1 is as it was", 2, x.boot());
        CHECK.due("frames as in copy 1", 2, x.count(5));
        Console y = new Console();
        CHECK.due("nothing is written", 0, y.commit(0));
        CHECK.due("the version is 1 still", 1, y.commit(9));
    }

    // "a version that is 1 more than the greatest that any page of both copies bears"
    private static void theVersionIsOneMoreThanTheGreatest() {
        for (int writes = 1; writes < 9; writes++) {
            Console x = commits(2);
            x.commit(writes);
            CHECK.due("a page of a cut commit counts", 4, x.commit(9));
            inForce(x, 4, 0);
        }
        for (int page = 0; page < 9; page++) {
            Console x = commits(2);
            x.spoil(1, page);
            x.boot();
            inForce(x, 1, 0);
            CHECK.due("the copy that is not in force counts", 3, x.commit(9));
        }
        Console y = new Console();
        for (int cut = 1; cut <= 5; cut++) {
            CHECK.due("cut", 0, y.commit(1));
            pages(y, 0, cut, 0, 0, 0, 0, 0, 0, 0, 0);
        }
        CHECK.due("page 0 spoilt", 5, y.spoil(0, 0));
        CHECK.due("a spoilt page counts", 6, y.commit(9));
    }

    // "(a page that is written is not spoilt)"
    private static void aWrittenPageIsNotSpoilt() {
        for (int page = 0; page < 9; page++) {
            Console x = commits(2);
            x.spoil(0, page);
            CHECK.due("all are written", 3, x.commit(9));
            CHECK.due("boot", 3, x.boot());
            inForce(x, 3, 0);
            CHECK.due("spoilt by the next", 3, x.spoil(0, page));
            CHECK.due("boot", 2, x.boot());
        }
        Console y = commits(1);
        y.spoil(0, 0);
        y.spoil(0, 8);
        CHECK.due("none is whole", 0, y.boot());
        CHECK.due("the first is written, the mark is not", 0, y.commit(1));
        CHECK.due("all are written", 3, y.commit(9));
        CHECK.due("boot", 3, y.boot());
    }

    // "Otherwise that copy is in force.": nothing else changes
    private static void aWholeCommitDoesNotBoot() {
        Console x = Scenes.stops(2);
        x.insert();
        x.knob(0, true);
        x.press(0, 0);
        x.tick(1);
        x.level(7);
        x.full(true);
        x.pedal(4);
        CHECK.due("commit", 1, x.commit(9));
        CHECK.due("frames", 1, x.count(5));
        CHECK.due("cursor", 0, x.count(6));
        CHECK.due("the pull goes on", 2, x.about(0, 2));
        CHECK.due("level", 7, x.level(7));
        CHECK.no("full", x.full(true));
        CHECK.due("pedal", 4, x.pedal(4));
    }

    private static void theLockKeepsNoCommit() {
        Console x = commits(1);
        x.lock(true);
        CHECK.due("commit, locked", 2, x.commit(9));
        CHECK.no("the lock stays", x.lock(true));
        CHECK.due("spoil, locked", 2, x.spoil(1, 0));
        CHECK.due("boot, locked", 1, x.boot());
        CHECK.no("the lock is off", x.lock(false));
    }

    // "IllegalArgumentException: writes is not 0 .. 9."
    private static void commitsThatAreNot() {
        for (Console x : Scenes.all()) {
            for (int writes : Check.outside(0, 9)) {
                CHECK.refused(x, "commit " + writes, IllegalArgumentException.class, c -> c.commit(writes));
            }
        }
        Console y = commits(2);
        y.spoil(1, 0);
        y.lock(true);
        for (int writes : Check.outside(0, 9)) {
            CHECK.refused(y, "commit " + writes + ", locked", IllegalArgumentException.class, c -> c.commit(writes));
        }
    }

    // "A copy is WHOLE if all nine bear the same version, which is not 0"
    private static void aCopyIsWholeOfNineOfOneVersion() {
        for (int writes = 0; writes < 9; writes++) {
            Console x = commits(2);
            x.commit(writes);
            x.spoil(1, 0);
            CHECK.due("copy 0 behind " + writes + " writes", writes == 0 ? 1 : 0, x.boot());
            inForce(x, writes == 0 ? 1 : 0, writes == 0 ? 0 : OrganConsole.NONE);
            Console y = new Console();
            y.commit(writes);
            CHECK.due("a copy of which " + writes + " are written", 0, y.boot());
            Console z = commits(1);
            z.commit(writes);
            inForce(z, 1, 0);
            z.spoil(0, 0);
            CHECK.due("copy 1 of which " + writes + " are written", 0, z.boot());
        }
    }

    // "and none is SPOILT"
    private static void aSpoiltPageMakesACopyNotWhole() {
        for (int page = 0; page < 9; page++) {
            Console x = commits(2);
            CHECK.due("spoil", 2, x.spoil(1, page));
            CHECK.due("the older copy is whole", 1, x.boot());
            inForce(x, 1, 0);
            CHECK.due("frames of the older copy", 1, x.count(5));
            CHECK.due("spoil", 1, x.spoil(0, page));
            CHECK.due("none is whole", 0, x.boot());
            inForce(x, 0, OrganConsole.NONE);
            CHECK.due("no frames", 0, x.count(5));
            CHECK.due("mend", 1, x.spoil(0, page));
            CHECK.due("the older copy is whole again", 1, x.boot());
            CHECK.due("mend", 2, x.spoil(1, page));
            CHECK.due("the newer copy is whole again", 2, x.boot());
            inForce(x, 2, 1);
            CHECK.due("frames of the newer copy", 2, x.count(5));
        }
        Console y = commits(1);
        for (int page = 0; page < 9; page++) {
            y.spoil(0, page);
        }
        for (int page = 0; page < 9; page++) {
            CHECK.due("one is spoilt still", 0, y.boot());
            y.spoil(0, page);
        }
        CHECK.due("none is spoilt", 1, y.boot());
    }

    // "the whole copy with the greater version .. is in force"
    private static void theGreaterVersionIsInForce() {
        for (int size = 1; size <= 5; size++) {
            Console x = commits(size);
            CHECK.due("boot", size, x.boot());
            inForce(x, size, (size + 1) % 2);
            CHECK.due("frames", size, x.count(5));
            x.spoil((size + 1) % 2, 0);
            CHECK.due("boot of the other", size - 1, x.boot());
            inForce(x, size - 1, size == 1 ? OrganConsole.NONE : size % 2);
            CHECK.due("frames of the other", size - 1, x.count(5));
            x.spoil((size + 1) % 2, 0);
            CHECK.due("boot of the greater", size, x.boot());
            inForce(x, size, (size + 1) % 2);
        }
    }

    // "if there is none, none is in force, and the memory is empty"
    private static void withNoneWholeTheMemoryIsEmpty() {
        Console x = Scenes.stops(5);
        for (int s = 0; s < 5; s++) {
            x.knob(s, true);
            x.assign(s * 3 + 1, s, true);
        }
        for (int level = 0; level < 8; level++) {
            x.level(level);
            for (int p = 0; p < 25; p += 6) {
                x.set(1, p);
            }
            x.set(0, 2 * level);
            x.set(0, 15);
        }
        x.insert();
        x.pedal(15);
        Console never = x.twin();
        CHECK.due("boot, never written", 0, never.boot());
        isEmpty(never);
        Console once = x.twin();
        once.commit(9);
        once.spoil(0, 8);
        CHECK.due("boot, copy 0 spoilt", 0, once.boot());
        isEmpty(once);
        Console twice = x.twin();
        twice.commit(9);
        twice.commit(9);
        twice.spoil(0, 0);
        twice.spoil(1, 8);
        CHECK.due("boot, both copies spoilt", 0, twice.boot());
        isEmpty(twice);
        Console cut = x.twin();
        CHECK.due("cut behind the last page", 0, cut.commit(8));
        isEmpty(cut);
    }

    private static void isEmpty(Console x) {
        inForce(x, 0, OrganConsole.NONE);
        CHECK.due("frames", 0, x.count(5));
        for (int s = 0; s < 5; s++) {
            x.knob(s, false);
            CHECK.due("no step adds stop " + s, 0, x.about(s, 1));
        }
        for (int level = 0; level < 8; level++) {
            x.level(level);
            for (int p = 0; p < 25; p++) {
                CHECK.yes("divisional is empty", x.lamp(1, p));
            }
            for (int p = 0; p < 16; p++) {
                CHECK.yes("general is empty", x.lamp(0, p));
            }
        }
    }

    // "the memory becomes as it was written there": what was changed since is gone
    private static void theMemoryIsAsItWasWritten() {
        Console x = Scenes.stops(2);
        x.knob(0, true);
        x.set(0, 15);
        x.set(1, 0);
        x.level(7);
        x.set(0, 0);
        x.set(1, 4);
        x.insert();
        x.knob(1, true);
        x.insert();
        x.assign(1, 0, true);
        x.assign(15, 1, true);
        x.commit(9);
        x.level(0);
        x.set(0, 15);
        x.set(2, 0);
        x.press(2, 1);
        x.delete();
        x.assign(1, 0, false);
        x.assign(15, 1, false);
        x.assign(14, 1, true);
        x.knob(1, false);
        for (int boots = 0; boots < 2; boots++) {
            CHECK.due("boot", 1, x.boot());
            CHECK.due("frames", 2, x.count(5));
            CHECK.yes("general", x.lamp(0, 15));
            CHECK.yes("divisional", x.lamp(1, 0));
            CHECK.no("divisional", x.lamp(1, 4));
            CHECK.yes("frame 0", x.lamp(2, 0));
            CHECK.no("frame 1", x.lamp(2, 1));
            x.level(7);
            CHECK.yes("general at level 7", x.lamp(0, 0));
            CHECK.yes("divisional at level 7", x.lamp(1, 4));
            CHECK.no("step 1", x.assign(1, 0, true));
            CHECK.no("step 14", x.assign(14, 1, false));
            CHECK.no("step 15", x.assign(15, 1, true));
            x.set(2, 1);
            x.assign(1, 0, false);
            x.assign(14, 1, true);
        }
    }

    // "THE MEMORY: all sets of pistons at all levels, the frames, the sets of the steps."
    private static void everySetComesBack() {
        for (int level = 0; level < 8; level++) {
            Console x = Scenes.stops(5);
            x.level(level);
            for (int s = 0; s < 5; s++) {
                x.knob(s, true);
            }
            for (int p = 0; p < 25; p++) {
                x.set(1, p);
            }
            for (int p = 0; p < 16; p++) {
                x.set(0, p);
            }
            for (int step = 1; step <= 15; step++) {
                x.assign(step, step % 5, true);
            }
            x.commit(9);
            x.level(level);
            for (int s = 0; s < 5; s++) {
                x.knob(s, false);
            }
            for (int p = 0; p < 25; p++) {
                x.set(1, p);
            }
            for (int p = 0; p < 16; p++) {
                x.set(0, p);
            }
            for (int step = 1; step <= 15; step++) {
                x.assign(step, step % 5, false);
            }
            CHECK.due("boot", 1, x.boot());
            x.level(level);
            for (int p = 0; p < 25; p++) {
                CHECK.due("divisional " + p + " at " + level, 1, x.press(1, p));
            }
            for (int p = 0; p < 16; p++) {
                CHECK.due("general " + p + " at " + level, 5, x.press(0, p));
            }
            for (int step = 1; step <= 15; step++) {
                CHECK.no("step " + step, x.assign(step, step % 5, true));
            }
        }
    }

    private static void aHundredFramesComeBack() {
        Console x = Scenes.full();
        x.commit(9);
        for (int f = 0; f < 100; f++) {
            x.delete();
        }
        Console emptied = x.twin();
        CHECK.due("a commit of none", 2, emptied.commit(9));
        CHECK.due("boot", 2, emptied.boot());
        CHECK.due("no frames", 0, emptied.count(5));
        emptied.spoil(1, 0);
        emptied.boot();
        CHECK.due("frames of the other copy", 100, emptied.count(5));
        CHECK.due("boot", 1, x.boot());
        CHECK.due("frames", 100, x.count(5));
        x.knob(47, false);
        CHECK.yes("the last frame", x.lamp(2, 99));
        CHECK.no("the first frame", x.lamp(2, 0));
    }

    private static void eachCopyHasItsOwn() {
        Console x = Scenes.stops(3);
        x.knob(0, true);
        x.set(0, 0);
        x.commit(9);
        x.knob(1, true);
        x.set(0, 0);
        x.commit(9);
        x.knob(2, true);
        x.set(0, 0);
        CHECK.due("cut", 2, x.commit(8));
        CHECK.due("as in copy 1", 1, x.press(0, 0));
        x.tick(3);
        CHECK.due("stops 0 and 1", 2, x.count(3));
        x.knob(1, false);
        x.set(0, 0);
        CHECK.due("commit", 4, x.commit(9));
        x.knob(0, false);
        x.set(0, 0);
        CHECK.due("boot", 4, x.boot());
        CHECK.due("as in copy 0", 1, x.press(0, 0));
        x.spoil(0, 0);
        CHECK.due("boot", 2, x.boot());
        CHECK.due("as in copy 1", 2, x.press(0, 0));
    }

    // "Pulls are dropped, the level is 0, the lock off, the full organ off, the cursor at -1."
    private static void bootDropsAndResets() {
        for (int written = 0; written < 2; written++) {
            Console x = Scenes.stops(2);
            x.insert();
            if (written == 1) {
                x.commit(9);
            }
            x.knob(0, true);
            x.knob(1, true);
            x.press(0, 0);
            x.tick(2);
            x.level(7);
            x.lock(true);
            x.full(true);
            CHECK.due("a pull has begun", 2, x.count(4));
            CHECK.due("boot", written, x.boot());
            CHECK.due("pulls", 0, x.count(4));
            CHECK.due("left", 0, x.about(1, 2));
            CHECK.due("no knob moves", 0, x.tick(100));
            CHECK.due("cursor", -1, x.count(6));
            CHECK.no("the lock is off", x.lock(false));
            CHECK.no("the full organ is off", x.full(false));
            CHECK.due("the level is 0", 0, x.level(0));
            CHECK.due("frames", written, x.count(5));
        }
    }

    // "Knobs, keys, couplers, the pedal and faults stay."
    private static void bootLeavesTheRest() {
        Console x = Scenes.stops(2);
        x.coupler(0, 1, 0);
        x.coupler(1, 0, 0);
        x.tab(0, true);
        x.key(0, 10, true);
        x.key(4, 31, true);
        x.knob(0, true);
        x.assign(3, 1, true);
        x.commit(9);
        x.pedal(3);
        x.fault(0, 5, 2);
        x.fault(1, 1, 1);
        CHECK.due("boot", 1, x.boot());
        CHECK.due("stops", 2, x.count(0));
        CHECK.due("couplers", 2, x.count(1));
        CHECK.due("keys", 2, x.count(2));
        CHECK.no("a key stays down", x.key(4, 31, true));
        CHECK.due("knobs", 1, x.count(3));
        CHECK.due("a knob stays out", 1, x.about(0, 0));
        CHECK.no("a coupler stays on", x.tab(0, true));
        CHECK.no("a coupler stays off", x.tab(1, false));
        CHECK.due("the crescendo adds stop 1 still", 1, x.about(1, 1));
        CHECK.due("a line", 12, x.test());
        CHECK.due("a line", 2, x.fault(0, 5, 0));
        CHECK.due("a coil", 103, x.test());
        CHECK.due("the pedal", 3, x.pedal(0));
    }

    // "A page of a copy comes to be spoilt, or, if it is, as it was written: its version."
    private static void spoilTurnsAPageOverAndBack() {
        for (int copy = 0; copy < 2; copy++) {
            for (int page = 0; page < 9; page++) {
                Console x = commits(2);
                int version = copy + 1;
                for (int times = 1; times <= 4; times++) {
                    CHECK.due("its version", version, x.spoil(copy, page));
                    x.spoil(1 - copy, 0);
                    CHECK.due("boot", times % 2 == 1 ? 0 : version, x.boot());
                    x.spoil(1 - copy, 0);
                }
                CHECK.due("both are whole", 2, x.boot());
            }
        }
    }

    private static void aSpoiltCopyStaysInForceTillABoot() {
        Console x = commits(1);
        x.spoil(0, 8);
        inForce(x, 1, 0);
        CHECK.due("frames stay", 1, x.count(5));
        Console booted = x.twin();
        CHECK.due("boot", 0, booted.boot());
        CHECK.due("the other copy is written", 2, x.commit(9));
        inForce(x, 2, 1);
        CHECK.due("boot", 2, x.boot());
    }

    // "IllegalStateException: it was never written."
    private static void pagesNeverWritten() {
        for (int page = 0; page < 9; page++) {
            int p = page;
            Console none = Scenes.stops(2);
            CHECK.refused(none, "page " + p + " of copy 0", IllegalStateException.class, c -> c.spoil(0, p));
            CHECK.refused(none, "page " + p + " of copy 1", IllegalStateException.class, c -> c.spoil(1, p));
            Console one = commits(1);
            CHECK.due("page " + p + " of copy 0", 1, one.spoil(0, p));
            CHECK.refused(one, "page " + p + " of copy 1", IllegalStateException.class, c -> c.spoil(1, p));
            Console cut = commits(1);
            cut.commit(p);
            CHECK.refused(cut, "page " + p + " of copy 1, cut ahead of it", IllegalStateException.class, c -> c.spoil(1, p));
            if (p > 0) {
                CHECK.due("page " + (p - 1) + " of copy 1", 2, cut.spoil(1, p - 1));
            }
        }
    }

    // "NoSuchElementException: copy or page."
    private static void pagesThatAreNot() {
        for (Console x : new Console[] {Scenes.bare(), Scenes.busy(), commits(2)}) {
            for (int copy : Check.outside(0, 1)) {
                CHECK.refused(x, "spoil of copy " + copy, NoSuchElementException.class, c -> c.spoil(copy, 0));
                CHECK.refused(x, "spoil of the mark of copy " + copy, NoSuchElementException.class, c -> c.spoil(copy, 8));
            }
            for (int page : Check.outside(0, 8)) {
                CHECK.refused(x, "spoil of page " + page, NoSuchElementException.class, c -> c.spoil(0, page));
                CHECK.refused(x, "spoil of page " + page, NoSuchElementException.class, c -> c.spoil(1, page));
                CHECK.refused(x, "spoil of no copy's page " + page, NoSuchElementException.class, c -> c.spoil(2, page));
            }
        }
    }
}
