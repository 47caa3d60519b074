import java.util.ArrayList;
import java.util.List;
import java.util.NoSuchElementException;
import java.util.TreeSet;

/**
 * A second console, told straight from the document with sets and loops and no thought of speed:
 * ModelTest holds the program against it.
 */
final class PlainConsole implements Face {
    private static final class Stop {
        int division;
        int shift;
        int low;
        int high;
        boolean out;
        boolean pulling;
        boolean pullTo;
        int left;
        int coil;
    }

    private static final class Coupler {
        int from;
        int to;
        int shift;
        boolean on;
    }

    private static final class Sets {
        final List<List<TreeSet<Integer>>> generals = new ArrayList<>();
        final List<List<TreeSet<Integer>>> divisionals = new ArrayList<>();
        final List<TreeSet<Integer>> frames = new ArrayList<>();
        final List<TreeSet<Integer>> steps = new ArrayList<>();

        Sets() {
            for (int level = 0; level < 8; level++) {
                generals.add(emptySets(16));
                divisionals.add(emptySets(25));
            }
            steps.addAll(emptySets(16));
        }

        static List<TreeSet<Integer>> emptySets(int size) {
            List<TreeSet<Integer>> sets = new ArrayList<>();
            for (int i = 0; i < size; i++) {
                sets.add(new TreeSet<>());
            }
            return sets;
        }

        static List<TreeSet<Integer>> twin(List<TreeSet<Integer>> sets) {
            List<TreeSet<Integer>> twins = new ArrayList<>();
            for (TreeSet<Integer> set : sets) {
                twins.add(new TreeSet<>(set));
            }
            return twins;
        }

        Sets twin() {
            Sets twin = new Sets();
            for (int level = 0; level < 8; level++) {
                twin.generals.set(level, twin(generals.get(level)));
                twin.divisionals.set(level, twin(divisionals.get(level)));
            }
            twin.frames.addAll(twin(frames));
            twin.steps.clear();
            twin.steps.addAll(twin(steps));
            return twin;
        }
    }

    private static final class Page {
        int version;
        boolean spoilt;
        Sets content;
    }

    private final List<Stop> stops = new ArrayList<>();
    private final List<Coupler> couplers = new ArrayList<>();
    private final boolean[][] down = {new boolean[61], new boolean[61], new boolean[61], new boolean[61], new boolean[32]};
    private final Page[][] pages = new Page[2][9];
    private final int[] lines = new int[40];
    private Sets memory = new Sets();
    private int inForce = -1;
    private int level = 0;
    private int cursor = -1;
    private int pedal = 0;
    private boolean lock = false;
    private boolean full = false;

    PlainConsole() {
        for (Page[] copy : pages) {
            for (int i = 0; i < 9; i++) {
                copy[i] = new Page();
            }
        }
    }

    private static void missing(boolean is) {
        if (is) {
            throw new NoSuchElementException();
        }
    }

    private static void badArgument(boolean is) {
        if (is) {
            throw new IllegalArgumentException();
        }
    }

    private static void badState(boolean is) {
        if (is) {
            throw new IllegalStateException();
        }
    }

    private static boolean outside(int x, int first, int last) {
        return x < first || x > last;
    }

    private void missingStop(int stop) {
        missing(outside(stop, 0, stops.size() - 1));
    }

    @Override
    public int stop(int division, int shift, int low, int high) {
        missing(outside(division, 0, 4));
        badArgument(outside(shift, -24, 24) || !(0 <= low && low <= high && high <= 96));
        badState(stops.size() == 48);
        Stop s = new Stop();
        s.division = division;
        s.shift = shift;
        s.low = low;
        s.high = high;
        stops.add(s);
        return stops.size() - 1;
    }

    @Override
    public int coupler(int from, int to, int shift) {
        missing(outside(from, 0, 4) || outside(to, 0, 4));
        badArgument(outside(shift, -24, 24));
        badState(couplers.size() == 16);
        Coupler c = new Coupler();
        c.from = from;
        c.to = to;
        c.shift = shift;
        couplers.add(c);
        return couplers.size() - 1;
    }

    @Override
    public boolean key(int keyboard, int k, boolean isDown) {
        missing(outside(keyboard, 0, 4) || outside(k, 0, keyboard == 4 ? 31 : 60));
        boolean was = down[keyboard][k];
        down[keyboard][k] = isDown;
        return was != isDown;
    }

    @Override
    public boolean knob(int stop, boolean out) {
        missingStop(stop);
        Stop s = stops.get(stop);
        boolean was = s.out;
        s.out = out;
        s.pulling = false;
        return was != out;
    }

    @Override
    public boolean tab(int coupler, boolean on) {
        missing(outside(coupler, 0, couplers.size() - 1));
        boolean was = couplers.get(coupler).on;
        couplers.get(coupler).on = on;
        return was != on;
    }

    @Override
    public boolean full(boolean on) {
        boolean was = full;
        full = on;
        return was != on;
    }

    private void missingPiston(int kind, int p) {
        missing(outside(kind, 0, 2));
        missing(outside(p, 0, kind == 0 ? 15 : kind == 1 ? 24 : memory.frames.size() - 1));
    }

    private List<TreeSet<Integer>> setsOf(int kind) {
        return kind == 0 ? memory.generals.get(level) : kind == 1 ? memory.divisionals.get(level) : memory.frames;
    }

    private boolean inScope(int kind, int p, int stop) {
        return kind != 1 || stops.get(stop).division == p / 5;
    }

    private int recall(int kind, int p) {
        TreeSet<Integer> set = setsOf(kind).get(p);
        int begun = 0;
        for (int i = 0; i < stops.size(); i++) {
            Stop s = stops.get(i);
            if (!inScope(kind, p, i)) {
                continue;
            }
            s.pulling = s.out != set.contains(i);
            if (s.pulling) {
                s.left = 3;
                s.pullTo = set.contains(i);
                begun++;
            }
        }
        return begun;
    }

    @Override
    public int press(int kind, int p) {
        missingPiston(kind, p);
        if (kind == 2) {
            cursor = p;
        }
        return recall(kind, p);
    }

    private TreeSet<Integer> standing(int kind, int p) {
        TreeSet<Integer> set = new TreeSet<>();
        for (int i = 0; i < stops.size(); i++) {
            if (inScope(kind, p, i) && stops.get(i).out) {
                set.add(i);
            }
        }
        return set;
    }

    @Override
    public int set(int kind, int p) {
        missingPiston(kind, p);
        badState(lock);
        setsOf(kind).set(p, standing(kind, p));
        return setsOf(kind).get(p).size();
    }

    @Override
    public int level(int n) {
        badArgument(outside(n, 0, 7));
        int was = level;
        level = n;
        return was;
    }

    @Override
    public boolean lock(boolean on) {
        boolean was = lock;
        lock = on;
        return was != on;
    }

    @Override
    public int move(int by) {
        long to = (long) cursor + (long) by;
        badArgument(to < 0 || to >= memory.frames.size());
        cursor = (int) to;
        return recall(2, cursor);
    }

    @Override
    public int insert() {
        badState(lock || memory.frames.size() == 100);
        memory.frames.add(cursor + 1, standing(0, 0));
        cursor++;
        return memory.frames.size();
    }

    @Override
    public int delete() {
        badState(lock || cursor == -1);
        memory.frames.remove(cursor);
        cursor--;
        return memory.frames.size();
    }

    @Override
    public int pedal(int step) {
        badArgument(outside(step, 0, 15));
        int was = pedal;
        pedal = step;
        return was;
    }

    @Override
    public boolean assign(int step, int stop, boolean in) {
        missingStop(stop);
        badArgument(outside(step, 1, 15));
        badState(lock);
        return in ? memory.steps.get(step).add(stop) : memory.steps.get(step).remove(stop);
    }

    @Override
    public int tick(int n) {
        badArgument(outside(n, 0, 100));
        int moved = 0;
        for (int t = 0; t < n; t++) {
            for (Stop s : stops) {
                if (s.pulling && --s.left == 0) {
                    s.pulling = false;
                    if (s.coil == 0) {
                        s.out = s.pullTo;
                        moved++;
                    }
                }
            }
        }
        return moved;
    }

    private boolean speaks(int stop) {
        boolean added = false;
        for (int step = 1; step <= pedal; step++) {
            added |= memory.steps.get(step).contains(stop);
        }
        return stops.get(stop).out || added || full;
    }

    private boolean isDown(int keyboard, int k) {
        return k >= 0 && k < down[keyboard].length && down[keyboard][k];
    }

    private boolean reached(int division, int note) {
        if (isDown(division, note)) {
            return true;
        }
        for (Coupler c : couplers) {
            if (c.on && c.to == division && isDown(c.from, note - c.shift)) {
                return true;
            }
        }
        return false;
    }

    private boolean open(int stop, int n) {
        Stop s = stops.get(stop);
        return speaks(stop) && n >= s.low && n <= s.high && reached(s.division, n - s.shift);
    }

    private int openPipes(int stop) {
        int open = 0;
        for (int n = 0; n <= 96; n++) {
            open += open(stop, n) ? 1 : 0;
        }
        return open;
    }

    @Override
    public int about(int stop, int what) {
        missingStop(stop);
        badArgument(outside(what, 0, 3));
        Stop s = stops.get(stop);
        switch (what) {
            case 0: return s.out ? 1 : 0;
            case 1: return speaks(stop) ? 1 : 0;
            case 2: return s.pulling ? s.left : 0;
            default: return openPipes(stop);
        }
    }

    @Override
    public boolean pipe(int stop, int n) {
        missingStop(stop);
        return open(stop, n);
    }

    @Override
    public boolean lamp(int kind, int p) {
        missingPiston(kind, p);
        return setsOf(kind).get(p).equals(standing(kind, p));
    }

    private boolean whole(int copy) {
        for (Page page : pages[copy]) {
            if (page.spoilt || page.version == 0 || page.version != pages[copy][0].version) {
                return false;
            }
        }
        return true;
    }

    @Override
    public int commit(int writes) {
        badArgument(outside(writes, 0, 9));
        int version = 0;
        for (Page[] copy : pages) {
            for (Page page : copy) {
                version = Math.max(version, page.version);
            }
        }
        int target = inForce == 0 ? 1 : 0;
        Sets content = memory.twin();
        for (int i = 0; i < writes; i++) {
            pages[target][i].version = version + 1;
            pages[target][i].spoilt = false;
            pages[target][i].content = content;
        }
        if (writes < 9) {
            return boot();
        }
        inForce = target;
        return count(7);
    }

    @Override
    public int boot() {
        inForce = -1;
        for (int copy = 0; copy < 2; copy++) {
            if (whole(copy) && (inForce == -1 || pages[copy][0].version > pages[inForce][0].version)) {
                inForce = copy;
            }
        }
        memory = inForce == -1 ? new Sets() : pages[inForce][0].content.twin();
        for (Stop s : stops) {
            s.pulling = false;
        }
        level = 0;
        lock = false;
        full = false;
        cursor = -1;
        return count(7);
    }

    @Override
    public int spoil(int copy, int page) {
        missing(outside(copy, 0, 1) || outside(page, 0, 8));
        badState(pages[copy][page].version == 0);
        pages[copy][page].spoilt = !pages[copy][page].spoilt;
        return pages[copy][page].version;
    }

    @Override
    public int fault(int kind, int k, int how) {
        missing(outside(kind, 0, 1) || outside(k, 0, kind == 0 ? 39 : stops.size() - 1));
        badArgument(outside(how, 0, 2));
        int was = kind == 0 ? lines[k] : stops.get(k).coil;
        if (kind == 0) {
            lines[k] = how;
        } else {
            stops.get(k).coil = how;
        }
        return was;
    }

    @Override
    public int test() {
        for (int i = 0; i < 40; i++) {
            if (lines[i] != 0) {
                return 2 * i + lines[i];
            }
        }
        for (int i = 0; i < stops.size(); i++) {
            if (stops.get(i).coil != 0) {
                return 100 + 2 * i + stops.get(i).coil;
            }
        }
        return 0;
    }

    private int keysDown() {
        int keys = 0;
        for (boolean[] keyboard : down) {
            for (boolean key : keyboard) {
                keys += key ? 1 : 0;
            }
        }
        return keys;
    }

    private int notesReached() {
        int notes = 0;
        for (int division = 0; division < 5; division++) {
            for (int note = 0; note <= 96; note++) {
                notes += reached(division, note) ? 1 : 0;
            }
        }
        return notes;
    }

    private int allOpenPipes() {
        int open = 0;
        for (int i = 0; i < stops.size(); i++) {
            open += openPipes(i);
        }
        return open;
    }

    private int pulls() {
        int pulls = 0;
        for (Stop s : stops) {
            pulls += s.pulling ? 1 : 0;
        }
        return pulls;
    }

    @Override
    public int count(int what) {
        badArgument(outside(what, 0, 10));
        switch (what) {
            case 0: return stops.size();
            case 1: return couplers.size();
            case 2: return keysDown();
            case 3: return standing(0, 0).size();
            case 4: return pulls();
            case 5: return memory.frames.size();
            case 6: return cursor;
            case 7: return inForce == -1 ? 0 : pages[inForce][0].version;
            case 8: return allOpenPipes();
            case 9: return notesReached();
            default: return inForce;
        }
    }
}
