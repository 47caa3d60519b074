import java.util.Arrays;
import java.util.NoSuchElementException;

/** The console of an organ. The numbered promises of DOC.md say what each call answers and changes. */
public final class OrganConsole {
    public static final int NONE = -1;

    private static final int DIVISIONS = 5;
    private static final int PEDALBOARD = 4;
    private static final int MANUAL_KEYS = 61;
    private static final int PEDALBOARD_KEYS = 32;
    private static final int MOST_STOPS = 48;
    private static final int MOST_COUPLERS = 16;
    private static final int MOST_SHIFT = 24;
    private static final int HIGHEST_NOTE = 96;

    private static final int GENERAL = 0;
    private static final int DIVISIONAL = 1;
    private static final int FRAME = 2;
    private static final int GENERALS = 16;
    private static final int DIVISIONALS = 25;
    private static final int DIVISIONALS_EACH = 5;
    private static final int LEVELS = 8;
    private static final int MOST_FRAMES = 100;
    private static final int STEPS = 15;
    private static final int AHEAD_OF_ALL = -1;

    private static final int PULL_TICKS = 3;
    private static final int MOST_TICKS = 100;

    private static final int COPIES = 2;
    private static final int MARK = 8;
    private static final int WRITES = 9;

    private static final int LINE = 0;
    private static final int COIL = 1;
    private static final int LINES = 40;
    private static final int SOUND = 0;
    private static final int SHORTED = 2;
    private static final int COILS_FROM = 100;

    private final Keywork keywork = new Keywork();
    private final Stops stops = new Stops();
    private final Memory memory = new Memory();
    private final Store store = new Store();
    private final int[] lines = new int[LINES];
    private int levelNow = 0;
    private int cursor = AHEAD_OF_ALL;
    private int pedalStep = 0;
    private boolean locked = false;
    private boolean fullOrgan = false;

    public OrganConsole() {
    }

    public int stop(int division, int shift, int low, int high)
            throws NoSuchElementException, IllegalArgumentException, IllegalStateException {
        checkKeyboard(division);
        checkShift(shift);
        if (low < 0 || low > high || high > HIGHEST_NOTE) {
            throw new IllegalArgumentException("a compass is 0 <= low <= high <= 96");
        }
        if (stops.size >= MOST_STOPS) {
            throw new IllegalStateException("there are 48 stops");
        }
        return stops.addStop(division, shift, low, high);
    }

    public int coupler(int from, int to, int shift)
            throws NoSuchElementException, IllegalArgumentException, IllegalStateException {
        checkKeyboard(from);
        checkKeyboard(to);
        checkShift(shift);
        if (keywork.couplers >= MOST_COUPLERS) {
            throw new IllegalStateException("there are 16 couplers");
        }
        return keywork.addCoupler(from, to, shift);
    }

    public boolean key(int keyboard, int k, boolean down) throws NoSuchElementException {
        checkKeyboard(keyboard);
        int keys = keyboard == PEDALBOARD ? PEDALBOARD_KEYS : MANUAL_KEYS;
        if (k < 0 || k >= keys) {
            throw new NoSuchElementException("no such key");
        }
        boolean was = has(keywork.down[keyboard], k);
        keywork.down[keyboard] = with(keywork.down[keyboard], k, down);
        return was != down;
    }

    public boolean knob(int stop, boolean out) throws NoSuchElementException {
        checkStop(stop);
        boolean was = has(stops.knobs, stop);
        stops.moveByHand(stop, out);
        return was != out;
    }

    public boolean tab(int coupler, boolean on) throws NoSuchElementException {
        if (coupler < 0 || coupler >= keywork.couplers) {
            throw new NoSuchElementException("no such coupler");
        }
        boolean was = has(keywork.tabs, coupler);
        keywork.tabs = with(keywork.tabs, coupler, on);
        return was != on;
    }

    public boolean full(boolean on) {
        boolean was = fullOrgan;
        fullOrgan = on;
        return was != on;
    }

    public int press(int kind, int p) throws NoSuchElementException {
        checkPiston(kind, p);
        if (kind == FRAME) {
            cursor = p;
        }
        return recallPiston(kind, p);
    }

    public int set(int kind, int p) throws NoSuchElementException, IllegalStateException {
        checkPiston(kind, p);
        checkUnlocked();
        long chosen = stops.knobs & scopeOf(kind, p);
        memory.sets[rowOf(kind, p)] = chosen;
        return Long.bitCount(chosen);
    }

    public int level(int n) throws IllegalArgumentException {
        if (n < 0 || n >= LEVELS) {
            throw new IllegalArgumentException("a level is 0 .. 7");
        }
        int was = levelNow;
        levelNow = n;
        return was;
    }

    public boolean lock(boolean on) {
        boolean was = locked;
        locked = on;
        return was != on;
    }

    public int move(int by) throws IllegalArgumentException {
        // a long, for cursor + by may go beyond an int
        long there = (long) cursor + by;
        if (there < 0 || there >= memory.frames) {
            throw new IllegalArgumentException("no frame is there");
        }
        cursor = (int) there;
        return recallPiston(FRAME, cursor);
    }

    public int insert() throws IllegalStateException {
        checkUnlocked();
        if (memory.frames >= MOST_FRAMES) {
            throw new IllegalStateException("there are 100 frames");
        }
        cursor++;
        memory.openFrame(cursor, stops.knobs);
        return memory.frames;
    }

    public int delete() throws IllegalStateException {
        checkUnlocked();
        if (cursor == AHEAD_OF_ALL) {
            throw new IllegalStateException("the cursor is ahead of all frames");
        }
        memory.closeFrame(cursor);
        cursor--;
        return memory.frames;
    }

    public int pedal(int step) throws IllegalArgumentException {
        if (step < 0 || step > STEPS) {
            throw new IllegalArgumentException("the pedal goes from 0 to 15");
        }
        int was = pedalStep;
        pedalStep = step;
        return was;
    }

    public boolean assign(int step, int stop, boolean in)
            throws NoSuchElementException, IllegalArgumentException, IllegalStateException {
        checkStop(stop);
        if (step < 1 || step > STEPS) {
            throw new IllegalArgumentException("a step is 1 .. 15");
        }
        checkUnlocked();
        int row = Memory.stepRow(step);
        boolean was = has(memory.sets[row], stop);
        memory.sets[row] = with(memory.sets[row], stop, in);
        return was != in;
    }

    public int tick(int n) throws IllegalArgumentException {
        if (n < 0 || n > MOST_TICKS) {
            throw new IllegalArgumentException("ticks are 0 .. 100");
        }
        return stops.pullFor(n);
    }

    public int about(int stop, int what) throws NoSuchElementException, IllegalArgumentException {
        checkStop(stop);
        switch (what) {
            case 0:
                return has(stops.knobs, stop) ? 1 : 0;
            case 1:
                return has(speaking(), stop) ? 1 : 0;
            case 2:
                return stops.ticksLeft[stop];
            case 3:
                return has(speaking(), stop) ? windedPipes(stop) : 0;
            default:
                throw new IllegalArgumentException("of a stop 0 .. 3 can be asked");
        }
    }

    public boolean pipe(int stop, int n) throws NoSuchElementException {
        checkStop(stop);
        if (n < stops.low[stop] || n > stops.high[stop] || !has(speaking(), stop)) {
            return false;
        }
        int note = n - stops.shift[stop];
        return keywork.reachedBetween(stops.division[stop], note, note) > 0;
    }

    public boolean lamp(int kind, int p) throws NoSuchElementException {
        checkPiston(kind, p);
        return stops.unlike(memory.sets[rowOf(kind, p)], scopeOf(kind, p)) == 0;
    }

    public int commit(int writes) throws IllegalArgumentException {
        if (writes < 0 || writes > WRITES) {
            throw new IllegalArgumentException("the writes are 0 .. 9");
        }
        store.write(memory, writes);
        if (writes < WRITES) {
            restart();
        }
        return store.versionInForce();
    }

    public int boot() {
        restart();
        return store.versionInForce();
    }

    public int spoil(int copy, int page) throws NoSuchElementException, IllegalStateException {
        if (copy < 0 || copy >= COPIES || page < 0 || page > MARK) {
            throw new NoSuchElementException("no such page");
        }
        Copy named = store.copyAt(copy);
        if (named.versions[page] == 0) {
            throw new IllegalStateException("the page was never written");
        }
        named.spoilt[page] = !named.spoilt[page];
        return named.versions[page];
    }

    public int fault(int kind, int k, int how) throws NoSuchElementException, IllegalArgumentException {
        checkWire(kind, k);
        if (how < SOUND || how > SHORTED) {
            throw new IllegalArgumentException("a state is 0 .. 2");
        }
        int[] wires = kind == LINE ? lines : stops.coils;
        int was = wires[k];
        wires[k] = how;
        return was;
    }

    public int test() {
        int line = firstFaulty(lines, LINES);
        if (line != NONE) {
            return 2 * line + lines[line];
        }
        int coil = firstFaulty(stops.coils, stops.size);
        if (coil != NONE) {
            return COILS_FROM + 2 * coil + stops.coils[coil];
        }
        return 0;
    }

    public int count(int what) throws IllegalArgumentException {
        switch (what) {
            case 0:
                return stops.size;
            case 1:
                return keywork.couplers;
            case 2:
                return keywork.keysDown();
            case 3:
                return Long.bitCount(stops.knobs);
            case 4:
                return stops.pulls();
            case 5:
                return memory.frames;
            case 6:
                return cursor;
            case 7:
                return store.versionInForce();
            case 8:
                return openPipes();
            case 9:
                return keywork.notesReached();
            case 10:
                return store.inForce;
            default:
                throw new IllegalArgumentException("0 .. 10 can be counted");
        }
    }

    private static void checkKeyboard(int keyboard) {
        if (keyboard < 0 || keyboard >= DIVISIONS) {
            throw new NoSuchElementException("no such keyboard or division");
        }
    }

    private static void checkShift(int shift) {
        if (shift < -MOST_SHIFT || shift > MOST_SHIFT) {
            throw new IllegalArgumentException("a shift is -24 .. 24");
        }
    }

    private void checkStop(int stop) {
        if (stop < 0 || stop >= stops.size) {
            throw new NoSuchElementException("no such stop");
        }
    }

    private void checkPiston(int kind, int p) {
        if (p < 0 || p >= pistonsOf(kind)) {
            throw new NoSuchElementException("no such piston or frame");
        }
    }

    private void checkWire(int kind, int k) {
        if (k < 0 || k >= wiresOf(kind)) {
            throw new NoSuchElementException("no such line or coil");
        }
    }

    private void checkUnlocked() {
        if (locked) {
            throw new IllegalStateException("the lock is on");
        }
    }

    /** How many pistons a kind has; 0 for a kind that there is not, so that it holds none. */
    private int pistonsOf(int kind) {
        switch (kind) {
            case GENERAL:
                return GENERALS;
            case DIVISIONAL:
                return DIVISIONALS;
            case FRAME:
                return memory.frames;
            default:
                return 0;
        }
    }

    /** How many wires a kind has; 0 for a kind that there is not, so that it holds none. */
    private int wiresOf(int kind) {
        switch (kind) {
            case LINE:
                return LINES;
            case COIL:
                return stops.size;
            default:
                return 0;
        }
    }

    private int rowOf(int kind, int p) {
        switch (kind) {
            case GENERAL:
                return Memory.generalRow(levelNow, p);
            case DIVISIONAL:
                return Memory.divisionalRow(levelNow, p);
            default:
                return Memory.frameRow(p);
        }
    }

    private long scopeOf(int kind, int p) {
        return kind == DIVISIONAL ? stops.ofDivision[p / DIVISIONALS_EACH] : stops.all();
    }

    private int recallPiston(int kind, int p) {
        return stops.recall(memory.sets[rowOf(kind, p)], scopeOf(kind, p));
    }

    private long speaking() {
        return fullOrgan ? stops.all() : stops.knobs | memory.stepsUpTo(pedalStep);
    }

    /** The pipes of a stop that are open as soon as it speaks. */
    private int windedPipes(int stop) {
        int shift = stops.shift[stop];
        return keywork.reachedBetween(stops.division[stop], stops.low[stop] - shift, stops.high[stop] - shift);
    }

    private int openPipes() {
        long speaking = speaking();
        int open = 0;
        for (int s = 0; s < stops.size; s++) {
            if (has(speaking, s)) {
                open += windedPipes(s);
            }
        }
        return open;
    }

    private void restart() {
        store.readInto(memory);
        stops.dropPulls();
        levelNow = 0;
        cursor = AHEAD_OF_ALL;
        locked = false;
        fullOrgan = false;
    }

    private static int firstFaulty(int[] wires, int size) {
        for (int w = 0; w < size; w++) {
            if (wires[w] != SOUND) {
                return w;
            }
        }
        return NONE;
    }

    private static boolean has(long bits, int at) {
        return ((bits >>> at) & 1L) != 0;
    }

    private static long with(long bits, int at, boolean in) {
        long bit = 1L << at;
        return in ? bits | bit : bits & ~bit;
    }

    /** Keys and couplers, and the notes that they reach. */
    private static final class Keywork {
        // Couplers reach notes from -24 to 84; two words, the first from note -24 on, hold them all.
        private static final int WORDS = 2;
        private static final int WORD_BITS = 64;

        final long[] down = new long[DIVISIONS];
        final int[] from = new int[MOST_COUPLERS];
        final int[] to = new int[MOST_COUPLERS];
        final int[] shift = new int[MOST_COUPLERS];
        int couplers = 0;
        long tabs = 0;

        int addCoupler(int fromKeyboard, int toDivision, int byShift) {
            int c = couplers;
            from[c] = fromKeyboard;
            to[c] = toDivision;
            shift[c] = byShift;
            couplers++;
            return c;
        }

        int keysDown() {
            int keys = 0;
            for (int k = 0; k < DIVISIONS; k++) {
                keys += Long.bitCount(down[k]);
            }
            return keys;
        }

        int notesReached() {
            int notes = 0;
            for (int d = 0; d < DIVISIONS; d++) {
                notes += reachedBetween(d, 0, HIGHEST_NOTE);
            }
            return notes;
        }

        /** How many notes of a division from first to last some key reaches; first is -24 or above. */
        int reachedBetween(int division, int first, int last) {
            int notes = 0;
            for (int w = 0; w < WORDS; w++) {
                notes += Long.bitCount(reached(division, w) & span(first, last, w));
            }
            return notes;
        }

        private long reached(int division, int word) {
            long notes = shifted(down[division], 0, word);
            for (int c = 0; c < couplers; c++) {
                if (to[c] == division && has(tabs, c)) {
                    notes |= shifted(down[from[c]], shift[c], word);
                }
            }
            return notes;
        }

        private static long shifted(long keys, int byShift, int word) {
            int by = byShift + MOST_SHIFT;
            if (word == 0) {
                return keys << by;
            }
            // Java shifts by 64 as by 0, but nothing spills over then
            return by == 0 ? 0 : keys >>> (WORD_BITS - by);
        }

        private static long span(int first, int last, int word) {
            int start = MOST_SHIFT - word * WORD_BITS;
            int low = Math.max(first + start, 0);
            int high = Math.min(last + start, WORD_BITS - 1);
            if (low > high) {
                return 0;
            }
            return (-1L << low) & (-1L >>> (WORD_BITS - 1 - high));
        }
    }

    /** Stops with their knobs, magnets and coils. A set of stops is a long whose bit s stands for stop s. */
    private static final class Stops {
        final int[] division = new int[MOST_STOPS];
        final int[] shift = new int[MOST_STOPS];
        final int[] low = new int[MOST_STOPS];
        final int[] high = new int[MOST_STOPS];
        final int[] ticksLeft = new int[MOST_STOPS];
        final int[] coils = new int[MOST_STOPS];
        final long[] ofDivision = new long[DIVISIONS];
        int size = 0;
        long knobs = 0;

        int addStop(int ofWhich, int byShift, int lowest, int highest) {
            int s = size;
            division[s] = ofWhich;
            shift[s] = byShift;
            low[s] = lowest;
            high[s] = highest;
            ofDivision[ofWhich] = with(ofDivision[ofWhich], s, true);
            size++;
            return s;
        }

        long all() {
            return (1L << size) - 1;
        }

        /** The stops in the scope whose knobs are not as the set has them. */
        long unlike(long chosen, long scope) {
            return (knobs ^ chosen) & scope;
        }

        int recall(long chosen, long scope) {
            long pulled = unlike(chosen, scope);
            for (int s = 0; s < size; s++) {
                if (has(scope, s)) {
                    ticksLeft[s] = has(pulled, s) ? PULL_TICKS : 0;
                }
            }
            return Long.bitCount(pulled);
        }

        void moveByHand(int s, boolean out) {
            knobs = with(knobs, s, out);
            ticksLeft[s] = 0;
        }

        /** How many knobs magnets move within so many ticks. */
        int pullFor(int ticks) {
            int moved = 0;
            for (int s = 0; s < size; s++) {
                if (ticksLeft[s] > ticks) {
                    ticksLeft[s] -= ticks;
                } else if (ticksLeft[s] > 0) {
                    ticksLeft[s] = 0;
                    moved += turn(s);
                }
            }
            return moved;
        }

        // A knob that is pulled has stood still since the pull began, so the pull's end is where it is not.
        private int turn(int s) {
            if (coils[s] != SOUND) {
                return 0;
            }
            knobs ^= 1L << s;
            return 1;
        }

        int pulls() {
            int begun = 0;
            for (int s = 0; s < size; s++) {
                if (ticksLeft[s] > 0) {
                    begun++;
                }
            }
            return begun;
        }

        void dropPulls() {
            Arrays.fill(ticksLeft, 0);
        }
    }

    /** All that pistons, frames and steps have stored: one row a set, so that a copy is one sweep. */
    private static final class Memory {
        private static final int DIVISIONALS_FROM = LEVELS * GENERALS;
        private static final int FRAMES_FROM = DIVISIONALS_FROM + LEVELS * DIVISIONALS;
        private static final int STEPS_FROM = FRAMES_FROM + MOST_FRAMES;
        private static final int ROWS = STEPS_FROM + STEPS;

        final long[] sets = new long[ROWS];
        int frames = 0;

        static int generalRow(int atLevel, int p) {
            return atLevel * GENERALS + p;
        }

        static int divisionalRow(int atLevel, int p) {
            return DIVISIONALS_FROM + atLevel * DIVISIONALS + p;
        }

        static int frameRow(int frame) {
            return FRAMES_FROM + frame;
        }

        static int stepRow(int step) {
            return STEPS_FROM + step - 1;
        }

        long stepsUpTo(int last) {
            long added = 0;
            for (int step = 1; step <= last; step++) {
                added |= sets[stepRow(step)];
            }
            return added;
        }

        void openFrame(int frame, long chosen) {
            int row = frameRow(frame);
            System.arraycopy(sets, row, sets, row + 1, frames - frame);
            sets[row] = chosen;
            frames++;
        }

        void closeFrame(int frame) {
            int row = frameRow(frame);
            frames--;
            System.arraycopy(sets, row + 1, sets, row, frames - frame);
        }

        void become(Memory other) {
            System.arraycopy(other.sets, 0, sets, 0, ROWS);
            frames = other.frames;
        }

        void empty() {
            Arrays.fill(sets, 0L);
            frames = 0;
        }
    }

    /** One copy of the memory: the versions of its pages, of which the last is the mark. */
    private static final class Copy {
        final int[] versions = new int[WRITES];
        final boolean[] spoilt = new boolean[WRITES];
        final Memory written = new Memory();

        int greatestVersion() {
            int greatest = 0;
            for (int page = 0; page < WRITES; page++) {
                greatest = Math.max(greatest, versions[page]);
            }
            return greatest;
        }

        /** The version of a whole copy; 0 if the copy is not whole. */
        int wholeVersion() {
            for (int page = 0; page < WRITES; page++) {
                if (spoilt[page] || versions[page] != versions[MARK]) {
                    return 0;
                }
            }
            return versions[MARK];
        }

        void writePages(Memory from, int version, int writes) {
            for (int page = 0; page < writes; page++) {
                versions[page] = version;
                spoilt[page] = false;
            }
            // A copy cut short is not whole till all is written anew, so what it holds is never read.
            if (writes == WRITES) {
                written.become(from);
            }
        }
    }

    /** The two copies, and which of them is in force. */
    private static final class Store {
        private final Copy first = new Copy();
        private final Copy second = new Copy();
        int inForce = NONE;

        Copy copyAt(int number) {
            return number == 0 ? first : second;
        }

        int versionInForce() {
            return inForce == NONE ? 0 : copyAt(inForce).versions[MARK];
        }

        void write(Memory from, int writes) {
            int target = inForce == 0 ? 1 : 0;
            int version = Math.max(first.greatestVersion(), second.greatestVersion()) + 1;
            copyAt(target).writePages(from, version, writes);
            if (writes == WRITES) {
                inForce = target;
            }
        }

        void readInto(Memory target) {
            inForce = newestWhole();
            if (inForce == NONE) {
                target.empty();
            } else {
                target.become(copyAt(inForce).written);
            }
        }

        private int newestWhole() {
            int firstVersion = first.wholeVersion();
            int secondVersion = second.wholeVersion();
            if (firstVersion == 0 && secondVersion == 0) {
                return NONE;
            }
            return firstVersion >= secondVersion ? 0 : 1;
        }
    }
}
