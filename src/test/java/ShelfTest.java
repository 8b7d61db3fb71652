import java.util.NoSuchElementException;

/** Promises 12 and 13: save and load. */
public final class ShelfTest {
    private static final Class<IndexOutOfBoundsException> INDEX = IndexOutOfBoundsException.class;
    private static final Class<NoSuchElementException> MISSING = NoSuchElementException.class;

    public static void main(String[] args) {
        copies();
        everyMode();
        wrongSlots();
        Check.end();
    }

    private static void copies() {
        SiteswapStudio x = Patterns.plain(new SiteswapStudio(), "531");
        Check.due("save in an empty slot", x.save(0), false);
        Check.due("save there again", x.save(0), true);
        x.put(0, 9, false);
        Check.due("load", x.load(0), 3);
        Check.due("the kept one did not change with the draft", x.height(0, 0), 5);
        x.put(0, 7, false);
        Check.due("load again", x.load(0), 3);
        Check.due("nor with the loaded draft", x.height(0, 0), 5);
        Patterns.plain(x, "51");
        Check.due("save over it", x.save(0), true);
        x.begin(0, 16);
        Check.due("load the later one", x.load(0), 2);
        Check.fails("its period", INDEX, () -> x.height(2, 0));
        Check.due("a loaded period is the one that it had", x.begin(0, 1), 2);
    }

    private static void everyMode() {
        SiteswapStudio x = new SiteswapStudio();
        Patterns.multiplex(x, "1", "234").save(4);
        Patterns.synchronous(x, "2x", "4").save(5);
        Patterns.plain(x, "321").save(3);
        Check.due("load multiplex", x.load(4), 2);
        Check.due("its throws", x.height(1, 1) * 10 + x.height(1, 2), 34);
        Check.due("it can be added to", x.add(0, 5), 2);
        Check.due("load synchronous", x.load(5), 2);
        Check.due("its crossing", x.height(0, 0), 18);
        Check.due("its hand", x.height(1, 0), 4);
        Check.due("load one that is not valid", x.load(3), 3);
        Check.due("it is not valid", x.clash(), 1);
        Check.fails("a site of another mode had more throws", INDEX, () -> x.height(1, 1));
    }

    private static void wrongSlots() {
        SiteswapStudio x = Patterns.plain(new SiteswapStudio(), "51");
        for (int slot : new int[] {-1, 6, Integer.MIN_VALUE, Integer.MAX_VALUE}) {
            Check.fails("save(" + slot + ")", INDEX, () -> x.save(slot));
            Check.fails("load(" + slot + ")", INDEX, () -> x.load(slot));
        }
        x.save(2);
        for (int slot : new int[] {0, 1, 3, 4, 5}) {
            Check.fails("load(" + slot + ") of none", MISSING, () -> x.load(slot));
        }
        Check.due("the draft stays", x.height(0, 0), 5);
    }
}
