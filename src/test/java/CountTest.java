import java.util.NoSuchElementException;

/** Promises 17 and 18: countValid and cycle, each against a count of all rows of heights. */
public final class CountTest {
    private static final Class<IllegalArgumentException> ARGUMENT = IllegalArgumentException.class;
    private static final Class<NoSuchElementException> MISSING = NoSuchElementException.class;

    public static void main(String[] args) {
        counts();
        wrongCounts();
        for (int n = 1; n <= 4; n++) {
            cycles(n);
        }
        wrongCycles();
        drafts();
        Check.end();
    }

    private static void counts() {
        SiteswapStudio x = new SiteswapStudio();
        for (int period = 1; period <= 6; period++) {
            int[] due = Model.countsOfPeriod(period);
            for (int balls = 0; balls <= 9; balls++) {
                String call = "countValid(" + period + ", " + balls + ")";
                Check.due(call, x.countValid(period, balls), due[balls]);
            }
        }
        Check.due("countValid(6, 2) behind others", x.countValid(6, 2), 641);
    }

    private static void wrongCounts() {
        SiteswapStudio x = new SiteswapStudio();
        int[][] wrong = {{0, 3}, {7, 3}, {-1, 3}, {3, -1}, {3, 10}, {0, 10},
            {Integer.MIN_VALUE, 3}, {Integer.MAX_VALUE, 3}, {3, Integer.MIN_VALUE},
            {3, Integer.MAX_VALUE}};
        for (int[] w : wrong) {
            String call = "countValid(" + w[0] + ", " + w[1] + ")";
            Check.fails(call, ARGUMENT, () -> x.countValid(w[0], w[1]));
        }
    }

    private static void cycles(int n) {
        SiteswapStudio x = new SiteswapStudio();
        java.util.List<Integer> due = Model.cyclesOfLength(n);
        for (int k = 0; k < due.size(); k++) {
            Check.due("cycle(" + n + ", " + k + ")", x.cycle(n, k), due.get(k));
        }
        int end = due.size();
        Check.fails("cycle(" + n + ", " + end + ")", MISSING, () -> x.cycle(n, end));
        Check.fails("a far cycle", MISSING, () -> x.cycle(n, Integer.MAX_VALUE));
    }

    private static void wrongCycles() {
        SiteswapStudio x = new SiteswapStudio();
        int[][] wrong = {{0, 0}, {5, 0}, {-1, 0}, {1, -1}, {4, Integer.MIN_VALUE},
            {Integer.MAX_VALUE, 0}, {Integer.MIN_VALUE, 0}, {5, 99999}};
        for (int[] w : wrong) {
            String call = "cycle(" + w[0] + ", " + w[1] + ")";
            Check.fails(call, ARGUMENT, () -> x.cycle(w[0], w[1]));
        }
    }

    private static void drafts() {
        SiteswapStudio x = Patterns.plain(new SiteswapStudio(), "531");
        x.countValid(6, 5);
        x.cycle(4, 7);
        Check.due("counting leaves the draft alone", x.height(0, 0) * 10 + x.height(2, 0), 51);
        Check.due("and its period", x.begin(0, 1), 3);
    }
}
