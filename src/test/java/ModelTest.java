import java.util.Random;
import java.util.function.Function;

/** Promises 1 to 26: long mixed runs of calls, right ones and wrong ones, against the plain console. */
public final class ModelTest {
    private static final int[] EDGES = {Integer.MIN_VALUE, Integer.MAX_VALUE, -1, 96, 97, 100, 101};
    // how often each of the 25 calls comes in a run, by the run's kind
    private static final int[][] MIXES = {
        {4, 2, 12, 6, 4, 1, 6, 6, 2, 1, 4, 4, 2, 3, 5, 6, 8, 8, 6, 2, 1, 2, 3, 2, 12},
        {1, 0, 1, 6, 0, 0, 3, 2, 1, 1, 4, 40, 1, 1, 1, 3, 3, 1, 6, 1, 0, 1, 1, 1, 8},
        {1, 1, 3, 4, 1, 1, 3, 3, 2, 2, 2, 4, 2, 2, 3, 2, 2, 2, 4, 16, 6, 12, 1, 1, 10},
        {20, 10, 30, 10, 10, 2, 0, 0, 0, 0, 0, 0, 0, 3, 5, 0, 8, 16, 0, 0, 0, 0, 1, 1, 30},
        {6, 0, 2, 10, 0, 1, 16, 10, 4, 0, 4, 3, 1, 0, 0, 20, 16, 0, 10, 1, 1, 0, 10, 4, 8},
    };

    private final Check check;
    private final Random random;
    private final Console real = new Console();
    private final PlainConsole plain = new PlainConsole();
    private String call = "";

    private ModelTest(Check check, long seed) {
        this.check = check;
        this.random = new Random(seed);
    }

    public static void main(String[] args) {
        Check check = new Check();
        for (int seed = 0; seed < 1500; seed++) {
            new ModelTest(check, seed).run(MIXES[seed % MIXES.length], seed);
        }
        check.end("ModelTest");
    }

    private void run(int[] mix, int seed) {
        int all = 0;
        for (int weight : mix) {
            all += weight;
        }
        for (int i = 0; i < Console.MOST_CALLS; i++) {
            int drawn = random.nextInt(all);
            int which = 0;
            while (drawn >= mix[which]) {
                drawn -= mix[which];
                which++;
            }
            step(which, "seed " + seed + " call " + i + " ");
        }
    }

    /** Mostly a number within first .. last, now and then one directly or far outside. */
    private int near(int first, int last) {
        int dice = random.nextInt(40);
        if (dice == 0) {
            return EDGES[random.nextInt(EDGES.length)];
        }
        if (dice == 1) {
            return last + 1;
        }
        if (dice == 2) {
            return first - 1;
        }
        return last < first ? first : first + random.nextInt(last - first + 1);
    }

    private int someStop() {
        return near(0, plain.count(0) - 1);
    }

    /** Low numbers come more often, so that what was set is recalled too. */
    private int somePiston(int kind) {
        return near(0, kind == 0 ? random.nextInt(16) : kind == 1 ? random.nextInt(25) : plain.count(5) - 1);
    }

    private void same(String name, Function<Face, Object> asked, int... arguments) {
        StringBuilder told = new StringBuilder(name);
        for (int argument : arguments) {
            told.append(' ').append(argument);
        }
        check.same(call + told, Check.outcome(() -> asked.apply(plain)), Check.outcome(() -> asked.apply(real)));
    }

    private void step(int which, String where) {
        call = where;
        if (which < 9) {
            playOrPress(which);
        } else if (which < 18) {
            stepOrAsk(which);
        } else {
            keepOrTest(which);
        }
    }

    private void playOrPress(int which) {
        boolean on = random.nextInt(3) > 0;
        int a = near(0, 4);
        int b = near(-24, 24);
        int low = near(0, 96);
        int high = low >= 0 && low <= 96 && random.nextInt(4) > 0 ? near(low, 96) : near(0, 96);
        int from = near(0, 4);
        int k = near(0, random.nextBoolean() ? 60 : 31);
        int stop = someStop();
        int tab = near(0, plain.count(1) - 1);
        int kind = near(0, 2);
        int p = somePiston(kind);
        int level = near(0, random.nextBoolean() ? 7 : 1);
        switch (which) {
            case 0: same("stop", x -> x.stop(a, b, low, high), a, b, low, high); break;
            case 1: same("coupler", x -> x.coupler(from, a, b), from, a, b); break;
            case 2: same("key", x -> x.key(a, k, on), a, k); break;
            case 3: same("knob", x -> x.knob(stop, on), stop); break;
            case 4: same("tab", x -> x.tab(tab, on), tab); break;
            case 5: same("full", x -> x.full(!on)); break;
            case 6: same("press", x -> x.press(kind, p), kind, p); break;
            case 7: same("set", x -> x.set(kind, p), kind, p); break;
            default: same("level", x -> x.level(level), level); break;
        }
    }

    private void stepOrAsk(int which) {
        boolean on = random.nextInt(3) > 0;
        boolean locked = random.nextInt(5) == 0;
        int by = near(-2, 3);
        int position = near(0, 15);
        int stepNumber = near(1, 15);
        int stop = someStop();
        int ticks = near(0, random.nextInt(10) == 0 ? 100 : 4);
        int what = near(0, 3);
        int n = near(0, 96);
        switch (which) {
            case 9: same("lock", x -> x.lock(locked)); break;
            case 10: same("move", x -> x.move(by), by); break;
            case 11: same("insert", x -> x.insert()); break;
            case 12: same("delete", x -> x.delete()); break;
            case 13: same("pedal", x -> x.pedal(position), position); break;
            case 14: same("assign", x -> x.assign(stepNumber, stop, on), stepNumber, stop); break;
            case 15: same("tick", x -> x.tick(ticks), ticks); break;
            case 16: same("about", x -> x.about(stop, what), stop, what); break;
            default: same("pipe", x -> x.pipe(stop, n), stop, n); break;
        }
    }

    private void keepOrTest(int which) {
        int kind = near(0, 2);
        int p = somePiston(kind);
        int writes = random.nextInt(3) == 0 ? near(0, 9) : 9;
        int copy = near(0, 1);
        int page = random.nextBoolean() ? near(0, 8) : 8;
        int wireKind = near(0, 1);
        int k = near(0, wireKind == 0 ? 39 : plain.count(0) - 1);
        int how = random.nextInt(3) == 0 ? near(0, 2) : 0;
        int what = near(0, 10);
        switch (which) {
            case 18: same("lamp", x -> x.lamp(kind, p), kind, p); break;
            case 19: same("commit", x -> x.commit(writes), writes); break;
            case 20: same("boot", x -> x.boot()); break;
            case 21: same("spoil", x -> x.spoil(copy, page), copy, page); break;
            case 22: same("fault", x -> x.fault(wireKind, k, how), wireKind, k, how); break;
            case 23: same("test", x -> x.test()); break;
            default: same("count", x -> x.count(what), what); break;
        }
    }
}
