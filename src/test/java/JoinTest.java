import java.util.NoSuchElementException;

/** Promises 14 to 16: join, joinThrow and joinAt. */
public final class JoinTest {
    private static final Class<IllegalArgumentException> ARGUMENT = IllegalArgumentException.class;
    private static final Class<IndexOutOfBoundsException> INDEX = IndexOutOfBoundsException.class;
    private static final Class<NoSuchElementException> MISSING = NoSuchElementException.class;

    public static void main(String[] args) {
        ways();
        wrongSlots();
        wrongDrafts();
        stays();
        Check.end();
    }

    private static void ways() {
        joined("531", "441", "", 0, 0);
        joined("0", "000", "", 0, 0);
        joined("9", "999", "", 0, 0);
        joined("4", "71", "56", 0, 0);
        joined("71", "4", "23", 0, 0);
        joined("51", "3", "2", 0, 0);
        joined("3", "51", "4", 0, 0);
        joined("15", "3", "2", 1, 0);
        joined("3", "15", "4", 0, 1);
        joined("900000000", "90", null, 0, 0);
    }

    /** Wanted throws of null: the drafts can't be joined. */
    private static void joined(String a, String b, String want, int fromSite, int toSite) {
        SiteswapStudio x = new SiteswapStudio();
        Patterns.plain(x, a).save(0);
        Patterns.plain(x, b).save(5);
        String call = a + " join " + b;
        if (want == null) {
            Check.fails(call, ARGUMENT, () -> x.join(0, 5));
            return;
        }
        Check.due(call, x.join(0, 5), want.length());
        for (int k = 0; k < want.length(); k++) {
            Check.due(call + " throw " + k, x.joinThrow(k), want.charAt(k) - '0');
        }
        for (int k : new int[] {-1, want.length(), Integer.MIN_VALUE, Integer.MAX_VALUE}) {
            Check.fails(call + " joinThrow(" + k + ")", INDEX, () -> x.joinThrow(k));
        }
        Check.due(call + " side 0", x.joinAt(0), fromSite);
        Check.due(call + " side 1", x.joinAt(1), toSite);
        for (int side : new int[] {-1, 2, Integer.MIN_VALUE, Integer.MAX_VALUE}) {
            Check.fails(call + " joinAt(" + side + ")", INDEX, () -> x.joinAt(side));
        }
    }

    private static void wrongSlots() {
        SiteswapStudio x = Patterns.plain(new SiteswapStudio(), "321");
        x.save(0);
        for (int slot : new int[] {-1, 6, Integer.MIN_VALUE, Integer.MAX_VALUE}) {
            Check.fails("join(0, " + slot + ")", INDEX, () -> x.join(0, slot));
            Check.fails("join(" + slot + ", 0)", INDEX, () -> x.join(slot, 0));
            Check.fails("the slot is asked before its draft", INDEX, () -> x.join(1, slot));
        }
        Check.fails("the emptiness is asked before the validity", MISSING, () -> x.join(0, 1));
        Check.fails("join(1, 0)", MISSING, () -> x.join(1, 0));
        Check.fails("join(1, 1)", MISSING, () -> x.join(1, 1));
    }

    private static void wrongDrafts() {
        SiteswapStudio x = new SiteswapStudio();
        Patterns.plain(x, "3").save(0);
        Patterns.multiplex(x, "3").save(1);
        Patterns.synchronous(x, "4", "2").save(2);
        Patterns.plain(x, "432").save(3);
        Patterns.plain(x, "4").save(4);
        for (int slot = 1; slot < 5; slot++) {
            int s = slot;
            Check.fails("join(0, " + s + ")", ARGUMENT, () -> x.join(0, s));
            Check.fails("join(" + s + ", 0)", ARGUMENT, () -> x.join(s, 0));
        }
        Check.fails("join(1, 1)", ARGUMENT, () -> x.join(1, 1));
        Check.fails("join(3, 3)", ARGUMENT, () -> x.join(3, 3));
        Check.fails("no join was made", INDEX, () -> x.joinAt(0));
        Check.fails("nor has it throws", INDEX, () -> x.joinThrow(0));
    }

    private static void stays() {
        SiteswapStudio x = new SiteswapStudio();
        Patterns.plain(x, "15").save(0);
        Patterns.plain(x, "3").save(1);
        Patterns.plain(x, "4").save(2);
        x.join(0, 1);
        Check.fails("join(0, 2)", ARGUMENT, () -> x.join(0, 2));
        Check.fails("join(0, 3)", MISSING, () -> x.join(0, 3));
        Check.fails("join(0, 6)", INDEX, () -> x.join(0, 6));
        x.begin(0, 1);
        x.save(0);
        Check.due("the join before stays", x.joinThrow(0) * 10 + x.joinAt(0), 21);
        Check.due("a later join", x.join(1, 1), 0);
        Check.fails("it has no throw", INDEX, () -> x.joinThrow(0));
        Check.due("it begins at site 0", x.joinAt(0), 0);
    }
}
