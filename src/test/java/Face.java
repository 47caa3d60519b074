/** The public face of the document, so that the program and the plain console can be asked alike. */
interface Face {
    int stop(int division, int shift, int low, int high);

    int coupler(int from, int to, int shift);

    boolean key(int keyboard, int k, boolean down);

    boolean knob(int stop, boolean out);

    boolean tab(int coupler, boolean on);

    boolean full(boolean on);

    int press(int kind, int p);

    int set(int kind, int p);

    int level(int n);

    boolean lock(boolean on);

    int move(int by);

    int insert();

    int delete();

    int pedal(int step);

    boolean assign(int step, int stop, boolean in);

    int tick(int n);

    int about(int stop, int what);

    boolean pipe(int stop, int n);

    boolean lamp(int kind, int p);

    int commit(int writes);

    int boot();

    int spoil(int copy, int page);

    int fault(int kind, int k, int how);

    int test();

    int count(int what);
}
