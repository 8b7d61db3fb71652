/** Promises 1 to 7 and 11: a new object, begin, put, add, valid, clash, balls and height. */
public final class DraftTest {
    private static final Class<IllegalArgumentException> ARGUMENT = IllegalArgumentException.class;
    private static final Class<IllegalStateException> STATE = IllegalStateException.class;
    private static final Class<IndexOutOfBoundsException> INDEX = IndexOutOfBoundsException.class;

    public static void main(String[] args) {
        newObject();
        begin();
        put();
        add();
        validAndClash();
        clashOfSynchronous();
        clashOfMultiplex();
        balls();
        height();
        Check.end();
    }

    private static void newObject() {
        SiteswapStudio x = new SiteswapStudio();
        Check.due("NONE", SiteswapStudio.NONE, -1);
        Check.due("new height", x.height(0, 0), 0);
        Check.due("new canonical (it is plain)", x.canonical(), 0);
        Check.fails("new height(1, 0)", INDEX, () -> x.height(1, 0));
        Check.fails("new height(0, 1)", INDEX, () -> x.height(0, 1));
        for (int slot = 0; slot < 6; slot++) {
            int s = slot;
            Check.fails("new load", java.util.NoSuchElementException.class, () -> x.load(s));
        }
        Check.fails("new floor(0)", STATE, () -> x.floor(0));
        Check.fails("new ball(0)", INDEX, () -> x.ball(0));
        Check.due("new highest", x.highest(), -1);
        Check.fails("new joinAt(0)", INDEX, () -> x.joinAt(0));
        Check.fails("new joinThrow(0)", INDEX, () -> x.joinThrow(0));
        Check.due("new begin", x.begin(0, 2), 1);
    }

    private static void begin() {
        SiteswapStudio x = Patterns.multiplex(new SiteswapStudio(), "333", "12");
        int[][] wrong = {{-1, 2}, {3, 2}, {0, 0}, {0, -1}, {0, 17}, {1, 17}, {2, 18}, {2, 0},
            {2, 1}, {2, 15}, {Integer.MIN_VALUE, 4}, {0, Integer.MAX_VALUE}};
        for (int[] w : wrong) {
            Check.fails("begin(" + w[0] + ", " + w[1] + ")", ARGUMENT, () -> x.begin(w[0], w[1]));
        }
        Check.due("the draft stays when begin throws", x.height(0, 2), 3);
        Check.due("begin(1, 16)", x.begin(1, 16), 2);
        for (int site = 0; site < 16; site++) {
            int s = site;
            Check.due("begun height", x.height(site, 0), 0);
            Check.fails("begun height(.., 1)", INDEX, () -> x.height(s, 1));
        }
        Check.due("begin(2, 2)", x.begin(2, 2), 16);
        x.put(0, 2, true);
        Check.due("begin(2, 16)", x.begin(2, 16), 2);
        Check.due("begun anew, it does not cross", x.height(0, 0), 0);
        Check.due("begin(0, 1)", x.begin(0, 1), 16);
    }

    private static void put() {
        SiteswapStudio x = Patterns.plain(new SiteswapStudio(), "531");
        Check.due("put", x.put(0, 9, false), 5);
        Check.due("put again", x.put(0, 0, false), 9);
        for (int height : new int[] {-1, 10, Integer.MIN_VALUE, Integer.MAX_VALUE}) {
            Check.fails("put height " + height, ARGUMENT, () -> x.put(1, height, false));
        }
        for (int site : new int[] {-1, 3, 16, Integer.MIN_VALUE, Integer.MAX_VALUE}) {
            Check.fails("put site " + site, INDEX, () -> x.put(site, 1, false));
            Check.fails("put: the site is asked first", INDEX, () -> x.put(site, 10, true));
        }
        Check.fails("a plain throw does not cross", ARGUMENT, () -> x.put(1, 2, true));
        Check.due("nothing changes when put throws", x.height(1, 0), 3);

        Patterns.multiplex(x, "12", "345");
        Check.due("put in multiplex", x.put(1, 7, false), 3);
        Check.due("others stay", x.height(1, 1) * 10 + x.height(1, 2), 45);
        Check.fails("a multiplex throw does not cross", ARGUMENT, () -> x.put(0, 2, true));

        x.begin(2, 4);
        Check.due("put crossing", x.put(1, 8, true), 0);
        Check.due("it crosses", x.height(1, 0), 24);
        Check.due("the height without the crossing", x.put(1, 6, false), 8);
        Check.due("it does not cross", x.height(1, 0), 6);
        Check.due("a crossing 0", x.put(0, 0, true) + x.height(0, 0), 16);
        Check.fails("odd in synchronous", ARGUMENT, () -> x.put(0, 1, false));
        Check.fails("odd in synchronous", ARGUMENT, () -> x.put(0, 9, true));
        Check.fails("10 in synchronous", ARGUMENT, () -> x.put(0, 10, false));
        Check.fails("-2 in synchronous", ARGUMENT, () -> x.put(0, -2, false));
    }

    private static void add() {
        SiteswapStudio x = new SiteswapStudio();
        Check.fails("add: the mode is asked first", STATE, () -> x.add(-1, 10));
        x.begin(2, 2);
        Check.fails("add in synchronous", STATE, () -> x.add(0, 2));
        x.begin(1, 2);
        Check.fails("add: the site is asked before the height", INDEX, () -> x.add(2, 10));
        Check.fails("add at -1", INDEX, () -> x.add(-1, 1));
        Check.fails("add 10", ARGUMENT, () -> x.add(0, 10));
        Check.fails("add -1", ARGUMENT, () -> x.add(0, -1));
        Check.due("add", x.add(0, 9), 2);
        Check.due("add again", x.add(0, 0), 3);
        Check.fails("add: three are asked before the height", STATE, () -> x.add(0, 10));
        Check.fails("add: the site is asked before the three", INDEX, () -> x.add(2, 1));
        Check.due("the second", x.height(0, 1), 9);
        Check.due("the third", x.height(0, 2), 0);
        Check.due("add at the other site", x.add(1, 4), 2);
        Check.due("the last site", x.begin(1, 16) + x.add(15, 5), 4);
        Check.due("its throw", x.height(15, 1), 5);
    }

    private static void validAndClash() {
        SiteswapStudio x = new SiteswapStudio();
        plainClash(x, "3", -1);
        plainClash(x, "0", -1);
        plainClash(x, "531", -1);
        plainClash(x, "97531", -1);
        plainClash(x, "40", -1);
        plainClash(x, "20", -1);
        plainClash(x, "543", 1);
        plainClash(x, "321", 1);
        plainClash(x, "10", 1);
        plainClash(x, "01", 0);
        plainClash(x, "8080808080808080", -1);
        // The meeting of two landings comes before a lower site that throws nothing.
        plainClash(x, "0321", 2);
        plainClash(x, "0040", -1);
        plainClash(x, "0201", 0);
        plainClash(x, "0221", 3);
    }

    private static void plainClash(SiteswapStudio x, String digits, int want) {
        Patterns.plain(x, digits);
        Check.due("clash of " + digits, x.clash(), want);
        Check.due("valid of " + digits, x.valid(), want == -1);
    }

    private static void clashOfSynchronous() {
        SiteswapStudio x = new SiteswapStudio();
        Check.due("(4,4)", Patterns.synchronous(x, "4", "4").clash(), -1);
        Check.due("(4x,4)", Patterns.synchronous(x, "4x", "4").clash(), 1);
        Check.due("(4x,4x)", Patterns.synchronous(x, "4x", "4x").clash(), -1);
        Check.due("(0,4x)", Patterns.synchronous(x, "0", "4x").clash(), 0);
        Check.due("(0x,4)", Patterns.synchronous(x, "0x", "4").clash(), -1);
        Check.due("(6x,4)(4,2x)", Patterns.synchronous(x, "6x", "4", "4", "2x").clash(), -1);
        Check.due("(6x,4)(4,2)", Patterns.synchronous(x, "6x", "4", "4", "2").clash(), 3);
        Check.due("it is not valid", x.valid(), false);
        Check.due("(8,6x)(0,2x)", Patterns.synchronous(x, "8", "6x", "0", "2x").clash(), 3);
    }

    private static void clashOfMultiplex() {
        SiteswapStudio x = new SiteswapStudio();
        multiplexClash(x, -1, "33");
        multiplexClash(x, -1, "222", "0");
        multiplexClash(x, 1, "54", "24", "52", "2");
        multiplexClash(x, -1, "4", "43", "1");
        multiplexClash(x, 0, "4", "43", "2");
        multiplexClash(x, 0, "3", "12", "0");
        multiplexClash(x, 0, "3", "33", "1");
        multiplexClash(x, -1, "3", "30", "3");
        multiplexClash(x, 1, "3", "1", "33");
    }

    private static void multiplexClash(SiteswapStudio x, int want, String... sites) {
        Patterns.multiplex(x, sites);
        Check.due("clash of " + String.join(",", sites), x.clash(), want);
        Check.due("valid of " + String.join(",", sites), x.valid(), want == -1);
    }

    private static void balls() {
        SiteswapStudio x = new SiteswapStudio();
        Check.due("balls of 97531", Patterns.plain(x, "97531").balls(), 5);
        Check.due("balls of 0", Patterns.plain(x, "000").balls(), 0);
        Check.due("balls of [999]", Patterns.multiplex(x, "999").balls(), 27);
        Check.due("balls of 4[43]1", Patterns.multiplex(x, "4", "43", "1").balls(), 4);
        Check.due("balls of (8,8)", Patterns.synchronous(x, "8", "8").balls(), 8);
        Check.due("balls of (6x,4)*", Patterns.synchronous(x, "6x", "4", "4", "2x").balls(), 4);
        Check.fails("balls of 321", STATE, () -> Patterns.plain(x, "321").balls());
        // The sum of the heights alone does not make a draft valid.
        Check.fails("balls of 3,2,1", STATE, () -> Patterns.multiplex(x, "3", "2", "1").balls());
    }

    private static void height() {
        SiteswapStudio x = Patterns.multiplex(new SiteswapStudio(), "123", "4");
        Check.due("height(0, 2)", x.height(0, 2), 3);
        Check.due("height(1, 0)", x.height(1, 0), 4);
        int[][] wrong = {{-1, 0}, {2, 0}, {0, 3}, {0, -1}, {1, 1}, {16, 0}, {0, Integer.MAX_VALUE},
            {Integer.MIN_VALUE, 0}, {0, Integer.MIN_VALUE}, {Integer.MAX_VALUE, 0}};
        for (int[] w : wrong) {
            Check.fails("height(" + w[0] + ", " + w[1] + ")", INDEX, () -> x.height(w[0], w[1]));
        }
        Patterns.synchronous(x, "4x", "4");
        Check.due("crossing", x.height(0, 0), 20);
        Check.due("not crossing", x.height(1, 0), 4);
        Check.fails("a second one in synchronous", INDEX, () -> x.height(0, 1));
    }
}
