/** The program behind the face. */
final class Organ implements Face {
    private final OrganConsole program = new OrganConsole();

    @Override
    public int stop(int division, int shift, int low, int high) {
        return program.stop(division, shift, low, high);
    }

    @Override
    public int coupler(int from, int to, int shift) {
        return program.coupler(from, to, shift);
    }

    @Override
    public boolean key(int keyboard, int k, boolean down) {
        return program.key(keyboard, k, down);
    }

    @Override
    public boolean knob(int stop, boolean out) {
        return program.knob(stop, out);
    }

    @Override
    public boolean tab(int coupler, boolean on) {
        return program.tab(coupler, on);
    }

    @Override
    public boolean full(boolean on) {
        return program.full(on);
    }

    @Override
    public int press(int kind, int p) {
        return program.press(kind, p);
    }

    @Override
    public int set(int kind, int p) {
        return program.set(kind, p);
    }

    @Override
    public int level(int n) {
        return program.level(n);
    }

    @Override
    public boolean lock(boolean on) {
        return program.lock(on);
    }

    @Override
    public int move(int by) {
        return program.move(by);
    }

    @Override
    public int insert() {
        return program.insert();
    }

    @Override
    public int delete() {
        return program.delete();
    }

    @Override
    public int pedal(int step) {
        return program.pedal(step);
    }

    @Override
    public boolean assign(int step, int stop, boolean in) {
        return program.assign(step, stop, in);
    }

    @Override
    public int tick(int n) {
        return program.tick(n);
    }

    @Override
    public int about(int stop, int what) {
        return program.about(stop, what);
    }

    @Override
    public boolean pipe(int stop, int n) {
        return program.pipe(stop, n);
    }

    @Override
    public boolean lamp(int kind, int p) {
        return program.lamp(kind, p);
    }

    @Override
    public int commit(int writes) {
        return program.commit(writes);
    }

    @Override
    public int boot() {
        return program.boot();
    }

    @Override
    public int spoil(int copy, int page) {
        return program.spoil(copy, page);
    }

    @Override
    public int fault(int kind, int k, int how) {
        return program.fault(kind, k, how);
    }

    @Override
    public int test() {
        return program.test();
    }

    @Override
    public int count(int what) {
        return program.count(what);
    }
}
