/** Consoles that tests begin with: bare ones, one in the midst of play, one with all places taken. */
final class Scenes {
    private Scenes() {
    }

    /** So many stops, stop s of division s % 5, each of all pipes. */
    static Console stops(int size) {
        return addStops(new Console(), size);
    }

    /** A console in the midst of everything, where a refused call has much that it could disturb. */
    static Console busy() {
        return toBusy(new Console());
    }

    /** All places taken: 48 stops, 16 couplers, 100 frames, the cursor at the last of them. */
    static Console full() {
        return toFull(new Console());
    }

    static Console bare() {
        return new Console();
    }

    /** The three of them, for what must be refused everywhere. */
    static Console[] all() {
        return new Console[] {bare(), busy(), full()};
    }

    private static Console addStops(Console x, int size) {
        for (int s = 0; s < size; s++) {
            x.stop(s % 5, 0, 0, 96);
        }
        return x;
    }

    static Console toBusy(Console x) {
        addStops(x, 7);
        x.coupler(0, 1, 12);
        x.coupler(1, 0, -24);
        x.coupler(4, 0, 24);
        x.tab(0, true);
        x.tab(2, true);
        x.key(0, 0, true);
        x.key(1, 60, true);
        x.key(4, 31, true);
        x.knob(1, true);
        x.knob(5, true);
        x.set(0, 3);
        x.set(1, 6);
        x.insert();
        x.knob(2, true);
        x.insert();
        x.level(2);
        x.knob(6, true);
        x.set(0, 15);
        x.set(1, 5);
        x.insert();
        x.assign(1, 3, true);
        x.assign(15, 4, true);
        x.commit(9);
        x.set(0, 0);
        x.assign(2, 0, true);
        x.commit(9);
        x.set(0, 7);
        x.spoil(0, 3);
        x.fault(0, 39, 2);
        x.fault(1, 2, 1);
        x.pedal(1);
        x.press(2, 1);
        x.tick(1);
        x.press(1, 10);
        return x;
    }

    static Console toFull(Console x) {
        addStops(x, 48);
        for (int c = 0; c < 16; c++) {
            x.coupler(c % 5, (c + 1) % 5, c - 8);
        }
        x.tab(15, true);
        x.key(0, 60, true);
        for (int keyboard = 0; keyboard < 5; keyboard++) {
            x.key(keyboard, 31 - keyboard, true);
        }
        for (int f = 0; f < 100; f++) {
            if (f % 10 == 0) {
                x.knob(f / 10 * 4, true);
            }
            x.insert();
        }
        x.set(0, 1);
        x.knob(47, true);
        return x;
    }
}
