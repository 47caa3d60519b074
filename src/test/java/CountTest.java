/** Promise 26 count: each number while one console is played, and what cannot be counted. */
public final class CountTest {
    private static final Check CHECK = new Check();

    public static void main(String[] args) {
        countsOfAPlayedConsole();
        wrongCounts();
        CHECK.end("CountTest");
    }

    private static OrganConsole played() {
        OrganConsole x = new OrganConsole();
        x.stop(0, 0, 0, 60);
        x.stop(1, 12, 0, 72);
        x.stop(4, 0, 0, 31);
        x.coupler(0, 1, -12);
        x.coupler(4, 0, 0);
        x.tab(0, true);
        x.knob(0, true);
        x.knob(1, true);
        x.insert();
        x.insert();
        x.insert();
        x.move(-1);
        x.commit(9);
        x.commit(9);
        x.press(0, 0);
        x.key(0, 5, true);
        x.key(0, 40, true);
        x.key(4, 31, true);
        return x;
    }

    private static void countsOfAPlayedConsole() {
        OrganConsole x = played();
        // keys 5 and 40 reach notes -7 and 28 of division 1, which its stop's shift brings to pipes 5 and 40
        int[] counts = {3, 2, 3, 2, 2, 3, 1, 2, 4, 4, 1};
        for (int what = 0; what < counts.length; what++) {
            CHECK.due("count " + what, counts[what], x.count(what));
        }
        CHECK.due("NONE", -1, OrganConsole.NONE);
        x.tick(3);
        CHECK.due("knobs that are out", 0, x.count(3));
        CHECK.due("pulls", 0, x.count(4));
        CHECK.due("open pipes", 0, x.count(8));
        CHECK.due("notes without a stop that speaks", 4, x.count(9));
    }

    private static void wrongCounts() {
        OrganConsole x = played();
        int[] bad = {-1, 11, Integer.MIN_VALUE, Integer.MAX_VALUE};
        for (int what : bad) {
            CHECK.refused(x, "count " + what, IllegalArgumentException.class, () -> x.count(what));
        }
    }
}
