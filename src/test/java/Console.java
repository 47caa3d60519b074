import java.util.ArrayList;
import java.util.List;
import java.util.function.Predicate;
import java.util.function.Supplier;
import java.util.function.ToIntFunction;

/**
 * A console that keeps its calls, so that twins of it can be made by the same calls.
 * The document leaves free what an object answers behind its 512th call, so a test that asks more is stopped.
 */
final class Console implements Face {
    static final int MOST_CALLS = 512;

    private final Supplier<Face> maker;
    private final Face behind;
    private final List<ToIntFunction<Face>> calls = new ArrayList<>();

    Console() {
        this(Organ::new);
    }

    Console(Supplier<Face> maker) {
        this.maker = maker;
        this.behind = maker.get();
    }

    int callsLeft() {
        return MOST_CALLS - calls.size();
    }

    /** A new console of the same calls; a call that was refused is refused again. */
    Console twin() {
        Console twin = new Console(maker);
        for (ToIntFunction<Face> call : calls) {
            Check.outcome(() -> twin.number(call));
        }
        return twin;
    }

    private int number(ToIntFunction<Face> call) {
        if (callsLeft() == 0) {
            throw new AssertionError("a test asks one object more than " + MOST_CALLS + " calls");
        }
        calls.add(call);
        return call.applyAsInt(behind);
    }

    private boolean truth(Predicate<Face> call) {
        return number(x -> call.test(x) ? 1 : 0) == 1;
    }

    @Override
    public int stop(int division, int shift, int low, int high) {
        return number(x -> x.stop(division, shift, low, high));
    }

    @Override
    public int coupler(int from, int to, int shift) {
        return number(x -> x.coupler(from, to, shift));
    }

    @Override
    public boolean key(int keyboard, int k, boolean down) {
        return truth(x -> x.key(keyboard, k, down));
    }

    @Override
    public boolean knob(int stop, boolean out) {
        return truth(x -> x.knob(stop, out));
    }

    @Override
    public boolean tab(int coupler, boolean on) {
        return truth(x -> x.tab(coupler, on));
    }

    @Override
    public boolean full(boolean on) {
        return truth(x -> x.full(on));
    }

    @Override
    public int press(int kind, int p) {
        return number(x -> x.press(kind, p));
    }

    @Override
    public int set(int kind, int p) {
        return number(x -> x.set(kind, p));
    }

    @Override
    public int level(int n) {
        return number(x -> x.level(n));
    }

    @Override
    public boolean lock(boolean on) {
        return truth(x -> x.lock(on));
    }

    @Override
    public int move(int by) {
        return number(x -> x.move(by));
    }

    @Override
    public int insert() {
        return number(x -> x.insert());
    }

    @Override
    public int delete() {
        return number(x -> x.delete());
    }

    @Override
    public int pedal(int step) {
        return number(x -> x.pedal(step));
    }

    @Override
    public boolean assign(int step, int stop, boolean in) {
        return truth(x -> x.assign(step, stop, in));
    }

    @Override
    public int tick(int n) {
        return number(x -> x.tick(n));
    }

    @Override
    public int about(int stop, int what) {
        return number(x -> x.about(stop, what));
    }

    @Override
    public boolean pipe(int stop, int n) {
        return truth(x -> x.pipe(stop, n));
    }

    @Override
    public boolean lamp(int kind, int p) {
        return truth(x -> x.lamp(kind, p));
    }

    @Override
    public int commit(int writes) {
        return number(x -> x.commit(writes));
    }

    @Override
    public int boot() {
        return number(x -> x.boot());
    }

    @Override
    public int spoil(int copy, int page) {
        return number(x -> x.spoil(copy, page));
    }

    @Override
    public int fault(int kind, int k, int how) {
        return number(x -> x.fault(kind, k, how));
    }

    @Override
    public int test() {
        return number(x -> x.test());
    }

    @Override
    public int count(int what) {
        return number(x -> x.count(what));
    }
}
