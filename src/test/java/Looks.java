import java.util.ArrayList;
import java.util.List;
import java.util.function.Consumer;
import java.util.function.Supplier;

/**
 * All that answers tell of a console, a line each. Twins of it are asked, as many as are needed to ask none
 * of them more than 512 calls; so questions may be asked, too, that change what they ask about.
 */
final class Looks {
    private static final int GENERALS = 16;
    private static final int PISTONS = 16 + 25;
    private static final int MANUAL_KEYS = 61;
    private static final int KEYS = 4 * MANUAL_KEYS + 32;
    private static final int PAGES = 9;
    private static final Consumer<Console> AS_IT_IS = x -> { };

    /** What is asked of a twin; i tells the questions of one kind apart. */
    private interface Question {
        Object ask(Console x, int i);
    }

    private final Supplier<Console> twins;
    private final List<String> told = new ArrayList<>();
    private final int stops;
    private final int couplers;
    private final int frames;

    private Looks(Supplier<Console> twins) {
        this.twins = twins;
        Console x = twins.get();
        this.stops = x.count(0);
        this.couplers = x.count(1);
        this.frames = x.count(5);
    }

    /** Everything: what shows, what is stored, what is written in the copies, and what ticks would bring. */
    static List<String> of(Supplier<Console> twins) {
        Looks looks = new Looks(twins);
        looks.whatShows();
        looks.keysAndPipes();
        looks.wires();
        looks.whatIsStored();
        looks.whatIsWritten();
        return looks.told;
    }

    /** Asks questions 0 .. size - 1, which take so many calls each at most, of twins that were made ready. */
    private void ask(String name, int size, int callsEach, Consumer<Console> ready, Question question) {
        Console x = null;
        for (int i = 0; i < size; i++) {
            if (x == null || x.callsLeft() < callsEach) {
                x = twins.get();
                ready.accept(x);
            }
            Console asked = x;
            int number = i;
            told.add(name + " " + i + ": " + Check.outcome(() -> question.ask(asked, number)));
        }
    }

    private void whatShows() {
        ask("count", 11, 1, AS_IT_IS, (x, i) -> x.count(i));
        ask("about", 4 * stops, 1, AS_IT_IS, (x, i) -> x.about(i / 4, i % 4));
        ask("piston's lamp", PISTONS, 1, AS_IT_IS, (x, i) -> i < GENERALS ? x.lamp(0, i) : x.lamp(1, i - GENERALS));
        ask("frame's lamp", frames, 1, AS_IT_IS, (x, i) -> x.lamp(2, i));
        ask("test", 1, 1, AS_IT_IS, (x, i) -> x.test());
        ask("level", 1, 1, AS_IT_IS, (x, i) -> x.level(0));
        ask("lock", 1, 1, AS_IT_IS, (x, i) -> x.lock(false));
        ask("full", 1, 1, AS_IT_IS, (x, i) -> x.full(false));
        ask("pedal", 1, 1, AS_IT_IS, (x, i) -> x.pedal(0));
        ask("ticks", 4, 1 + stops, AS_IT_IS, (x, i) -> x.tick(1) + " moved, " + abouts(x, 0));
    }

    private void keysAndPipes() {
        ask("key", KEYS, 1, AS_IT_IS, (x, i) -> x.key(i / MANUAL_KEYS, i % MANUAL_KEYS, false));
        ask("tab", couplers, 1, AS_IT_IS, (x, i) -> x.tab(i, false));
        for (int stop = 0; stop < stops; stop++) {
            int s = stop;
            ask("pipe of stop " + s + " at -1 +", 99, 1, AS_IT_IS, (x, i) -> x.pipe(s, i - 1));
        }
    }

    private void wires() {
        ask("line", 40, 1, AS_IT_IS, (x, i) -> x.fault(0, i, 0));
        ask("coil", stops, 1, AS_IT_IS, (x, i) -> x.fault(1, i, 0));
    }

    private void whatIsStored() {
        for (int level = 0; level < 8; level++) {
            int l = level;
            ask("piston at level " + l, PISTONS, 1 + stops, x -> x.level(l), (x, i) -> pressed(x, i) + abouts(x, 2));
        }
        ask("frame", frames, 1 + stops, AS_IT_IS, (x, i) -> x.press(2, i) + abouts(x, 2));
        ask("step's stop", 15 * stops, 1, x -> x.lock(false), (x, i) -> x.assign(1 + i / stops, i % stops, false));
    }

    private void whatIsWritten() {
        ask("page", 2 * PAGES, 1, AS_IT_IS, (x, i) -> x.spoil(i / PAGES, i % PAGES));
        for (int page = 0; page < 2 * PAGES; page++) {
            int p = page;
            ask("boot, page " + p + " spoilt or mended", 4, 1, x -> spoil(x, p), Looks::booted);
        }
        for (int copy = 0; copy < 2; copy++) {
            int other = (1 - copy) * PAGES;
            for (int level = 0; level < 8; level++) {
                int l = level;
                ask("piston of copy " + copy + " at level " + l, PISTONS, 1, x -> bootAt(x, other, l), Looks::pressed);
            }
        }
    }

    private static int pressed(Console x, int piston) {
        return piston < GENERALS ? x.press(0, piston) : x.press(1, piston - GENERALS);
    }

    private String abouts(Console x, int what) {
        StringBuilder all = new StringBuilder(" ");
        for (int s = 0; s < stops; s++) {
            all.append(x.about(s, what));
        }
        return all.toString();
    }

    private static void spoil(Console x, int page) {
        Check.outcome(() -> x.spoil(page / PAGES, page % PAGES));
    }

    private static Object booted(Console x, int i) {
        return i == 0 ? x.boot() : x.count(i == 1 ? 5 : i == 2 ? 8 : 10);
    }

    private static void bootAt(Console x, int page, int level) {
        spoil(x, page);
        x.boot();
        x.level(level);
    }
}
