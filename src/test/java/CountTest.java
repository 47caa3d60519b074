/** Promise 26 count: each number at its least and at its greatest, in between, and what cannot be counted. */
public final class CountTest {
    private static final Check CHECK = new Check();

    public static void main(String[] args) {
        countsOfANewConsole();
        countsOfAPlayedConsole();
        allPlacesTaken();
        allKeysDown();
        allNotesReached();
        notesFromZeroOn();
        theCursorFromAheadOfAll();
        theVersionAndTheCopy();
        wrongCounts();
        CHECK.end("CountTest");
    }

    private static void counts(Console x, int... counts) {
        for (int what = 0; what < counts.length; what++) {
            CHECK.due("count " + what, counts[what], x.count(what));
        }
    }

    private static void countsOfANewConsole() {
        counts(new Console(), 0, 0, 0, 0, 0, 0, -1, 0, 0, 0, OrganConsole.NONE);
    }

    private static void countsOfAPlayedConsole() {
        Console x = new Console();
        x.stop(0, 0, 0, 60);
        x.stop(1, 12, 0, 72);
        x.stop(4, 0, 0, 31);
        x.coupler(0, 1, -12);
        x.coupler(4, 0, 0);
        x.tab(0, true);
        x.knob(0, true);
        x.knob(1, true);
        x.insert();
        x.insert();
        x.insert();
        x.move(-1);
        x.commit(9);
        x.commit(9);
        x.press(0, 0);
        x.key(0, 5, true);
        x.key(0, 40, true);
        x.key(4, 31, true);
        // keys 5 and 40 reach notes -7 and 28 of division 1, which its stop's shift brings to pipes 5 and 40
        counts(x, 3, 2, 3, 2, 2, 3, 1, 2, 4, 4, 1);
        x.tick(3);
        counts(x, 3, 2, 3, 0, 0, 3, 1, 2, 0, 4, 1);
    }

    private static void allPlacesTaken() {
        Console x = Scenes.full();
        for (int s = 0; s < 48; s++) {
            x.knob(s, true);
        }
        CHECK.due("stops", 48, x.count(0));
        CHECK.due("couplers", 16, x.count(1));
        CHECK.due("knobs", 48, x.count(3));
        CHECK.due("no pulls", 0, x.count(4));
        CHECK.due("frames", 100, x.count(5));
        CHECK.due("cursor", 99, x.count(6));
        x.press(0, 0);
        CHECK.due("pulls", 48, x.count(4));
        x.tick(2);
        CHECK.due("pulls that have not ended", 48, x.count(4));
        x.tick(1);
        CHECK.due("pulls that have ended", 0, x.count(4));
        CHECK.due("no knobs", 0, x.count(3));
    }

    private static void pressAllKeys(Console x, int keyboard) {
        for (int k = 0; k < (keyboard == 4 ? 32 : 61); k++) {
            x.key(keyboard, k, true);
        }
    }

    private static void allKeysDown() {
        Console x = Scenes.stops(48);
        x.full(true);
        for (int keyboard = 0; keyboard < 5; keyboard++) {
            x.coupler(keyboard, keyboard, 24);
            pressAllKeys(x, keyboard);
        }
        CHECK.due("keys", 4 * 61 + 32, x.count(2));
        CHECK.due("notes", 4 * 61 + 32, x.count(9));
        CHECK.due("pipes", 39 * 61 + 9 * 32, x.count(8));
        for (int c = 0; c < 5; c++) {
            x.tab(c, true);
        }
        CHECK.due("keys", 4 * 61 + 32, x.count(2));
        CHECK.due("notes", 4 * 85 + 56, x.count(9));
        CHECK.due("pipes", 39 * 85 + 9 * 56, x.count(8));
    }

    private static void allNotesReached() {
        Console x = Scenes.stops(5);
        for (int division = 0; division < 5; division++) {
            for (int shift = -24; shift <= 24; shift += 24) {
                x.coupler(0, division, shift);
            }
        }
        for (int c = 0; c < 15; c++) {
            x.tab(c, true);
        }
        pressAllKeys(x, 0);
        CHECK.due("notes 0 .. 84 of five divisions", 5 * 85, x.count(9));
        CHECK.due("no stop speaks", 0, x.count(8));
        x.full(true);
        CHECK.due("pipes 0 .. 84 of five stops", 5 * 85, x.count(8));
        x.stop(2, 24, 0, 96);
        CHECK.due("pipes 0 .. 96 of another", 5 * 85 + 97, x.count(8));
    }

    // "notes of all divisions that some key reaches (0 .. 96 alone)"
    private static void notesFromZeroOn() {
        Console x = new Console();
        x.coupler(0, 1, -24);
        x.coupler(0, 2, 24);
        x.tab(0, true);
        x.tab(1, true);
        x.key(0, 23, true);
        CHECK.due("23, 47, not -1", 2, x.count(9));
        x.key(0, 23, false);
        x.key(0, 24, true);
        CHECK.due("24, 48, and 0", 3, x.count(9));
        x.key(0, 24, false);
        x.key(0, 60, true);
        CHECK.due("60, 84, and 36", 3, x.count(9));
        x.key(0, 0, true);
        CHECK.due("0, 24, not -24", 5, x.count(9));
        x.key(2, 24, true);
        CHECK.due("24 by two keys is one note", 5, x.count(9));
    }

    private static void theCursorFromAheadOfAll() {
        Console x = new Console();
        CHECK.due("without frames", -1, x.count(6));
        x.insert();
        CHECK.due("at the only frame", 0, x.count(6));
        x.insert();
        CHECK.due("at the second", 1, x.count(6));
        x.press(2, 0);
        CHECK.due("at the first", 0, x.count(6));
        x.delete();
        CHECK.due("ahead of one", -1, x.count(6));
        CHECK.due("frames", 1, x.count(5));
    }

    // "7 the version in force", "10 the copy in force (NONE: none)"
    private static void theVersionAndTheCopy() {
        Console x = new Console();
        x.commit(8);
        CHECK.due("version of a cut commit", 0, x.count(7));
        CHECK.due("copy of a cut commit", OrganConsole.NONE, x.count(10));
        x.commit(9);
        CHECK.due("version", 2, x.count(7));
        CHECK.due("copy", 0, x.count(10));
        x.commit(9);
        CHECK.due("version", 3, x.count(7));
        CHECK.due("copy", 1, x.count(10));
        x.spoil(1, 8);
        x.boot();
        CHECK.due("version of the older", 2, x.count(7));
        CHECK.due("copy of the older", 0, x.count(10));
        x.spoil(0, 0);
        CHECK.due("spoilt, but in force", 2, x.count(7));
        x.boot();
        CHECK.due("version of none", 0, x.count(7));
        CHECK.due("copy of none", OrganConsole.NONE, x.count(10));
    }

    // "IllegalArgumentException: none of these."
    private static void wrongCounts() {
        for (Console x : Scenes.all()) {
            for (int what : Check.outside(0, 10)) {
                CHECK.refused(x, "count " + what, IllegalArgumentException.class, c -> c.count(what));
            }
        }
    }
}
