/** Promises 8 to 10: state, swap and canonical. */
public final class PlainTest {
    private static final Class<IllegalStateException> STATE = IllegalStateException.class;
    private static final Class<IndexOutOfBoundsException> INDEX = IndexOutOfBoundsException.class;

    public static void main(String[] args) {
        state();
        stateThatThrows();
        swap();
        swapThatThrows();
        canonical();
        Check.end();
    }

    private static void state() {
        SiteswapStudio x = new SiteswapStudio();
        Patterns.plain(x, "9");
        Check.due("nine balls", x.state(0), 511);
        Patterns.plain(x, "0000");
        Check.due("no balls", x.state(3), 0);
        Patterns.plain(x, "51");
        Check.due("51 before 0", x.state(0), 0b1011);
        Check.due("51 before 1", x.state(1), 0b10101);
        Patterns.plain(x, "80000000");
        Check.due("a ball of a round before", x.state(0), 1);
        Check.due("the height of a fresh throw", x.state(1), 1 << 7);
        Check.due("on its way", x.state(4), 1 << 4);
    }

    private static void stateThatThrows() {
        SiteswapStudio x = Patterns.plain(new SiteswapStudio(), "531");
        Check.fails("state(3)", INDEX, () -> x.state(3));
        Check.fails("state(-1)", INDEX, () -> x.state(-1));
        Check.fails("state(min)", INDEX, () -> x.state(Integer.MIN_VALUE));
        Patterns.plain(x, "321");
        Check.fails("not valid", STATE, () -> x.state(0));
        Check.fails("not valid is asked before the site", STATE, () -> x.state(3));
        Patterns.multiplex(x, "3");
        Check.fails("multiplex", STATE, () -> x.state(0));
        Patterns.synchronous(x, "4", "4");
        Check.fails("synchronous is asked before the site", STATE, () -> x.state(-1));
    }

    private static void swap() {
        SiteswapStudio x = Patterns.plain(new SiteswapStudio(), "333");
        swapped(x, "333", 0, 1, "423");
        swapped(x, "333", 1, 0, "423");
        swapped(x, "333", 0, 2, "531");
        swapped(x, "333", 2, 2, "333");
        swapped(x, "321", 0, 1, "321");
        swapped(x, "01", 0, 1, null);
        swapped(x, "80", 0, 1, "17");
        swapped(x, "00", 0, 1, null);
        swapped(x, "99", 0, 1, null);
        swapped(x, "19", 1, 0, null);
        swapped(x, "18", 0, 1, "90");
        swapped(x, "0000000000000009", 15, 0, null);
        swapped(x, "9000000000000000", 9, 0, "9000000000000000");
    }

    /** A wanted text of null: the swap is refused and nothing changes. */
    private static void swapped(SiteswapStudio x, String digits, int i, int j, String want) {
        Patterns.plain(x, digits);
        String call = digits + " swap(" + i + ", " + j + ")";
        Check.due(call, x.swap(i, j), want != null);
        String got = Patterns.heights(x, digits.length());
        if (!got.equals(want == null ? digits : want)) {
            Check.report(call + " made " + got + ", due is " + want);
        }
    }

    private static void swapThatThrows() {
        SiteswapStudio x = Patterns.plain(new SiteswapStudio(), "531");
        int[][] wrong = {{-1, 0}, {0, -1}, {3, 0}, {0, 3}, {3, 3}, {-1, -1},
            {Integer.MIN_VALUE, 0}, {0, Integer.MAX_VALUE}};
        for (int[] w : wrong) {
            Check.fails("swap(" + w[0] + ", " + w[1] + ")", INDEX, () -> x.swap(w[0], w[1]));
        }
        Patterns.multiplex(x, "3", "3");
        Check.fails("swap in multiplex", STATE, () -> x.swap(0, 1));
        Check.fails("the mode is asked before the site", STATE, () -> x.swap(5, 5));
        Patterns.synchronous(x, "4", "4");
        Check.fails("swap in synchronous", STATE, () -> x.swap(0, 1));
    }

    private static void canonical() {
        SiteswapStudio x = new SiteswapStudio();
        turned(x, "531", 2, "153");
        turned(x, "153", 0, "153");
        turned(x, "3131", 1, "1313");
        turned(x, "777", 0, "777");
        turned(x, "5", 0, "5");
        turned(x, "200102", 1, "001022");
        turned(x, "2010011", 3, "0011201");
        turned(x, "9999999999999990", 15, "0999999999999999");
        Patterns.multiplex(x, "1", "0");
        Check.fails("canonical of multiplex", STATE, () -> x.canonical());
        Patterns.synchronous(x, "4", "2");
        Check.fails("canonical of synchronous", STATE, () -> x.canonical());
    }

    private static void turned(SiteswapStudio x, String digits, int want, String heights) {
        Patterns.plain(x, digits);
        Check.due("canonical of " + digits, x.canonical(), want);
        String got = Patterns.heights(x, digits.length());
        if (!got.equals(heights)) {
            Check.report("canonical of " + digits + " made " + got + ", due is " + heights);
        }
    }
}
