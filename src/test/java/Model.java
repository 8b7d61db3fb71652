import java.util.ArrayList;
import java.util.Arrays;
import java.util.Comparator;
import java.util.List;
import java.util.NoSuchElementException;

/** The document written out as plainly and slowly as possible, to compare the class with. */
final class Model {
    /** A ball on the floor; thrownAt and order only serve to number the balls. */
    private static final class Ball {
        int landsAt;
        int landsIn;
        int thrownAt;
        int order;
    }

    private static final class Pattern {
        int mode;
        List<List<Integer>> sites = new ArrayList<>();
        boolean[] cross;

        Pattern(int mode, int period) {
            this.mode = mode;
            cross = new boolean[period];
            for (int site = 0; site < period; site++) {
                sites.add(new ArrayList<>(List.of(0)));
            }
        }

        Pattern copy() {
            Pattern copy = new Pattern(mode, sites.size());
            copy.cross = cross.clone();
            for (int site = 0; site < sites.size(); site++) {
                copy.sites.set(site, new ArrayList<>(sites.get(site)));
            }
            return copy;
        }

        int period() {
            return sites.size();
        }

        int first(int site) {
            return sites.get(site).get(0);
        }

        /** The sites that throw at a beat, left hand first. */
        List<Integer> sitesAt(int beat) {
            int site = Math.floorMod(beat, period());
            if (mode != 2) {
                return List.of(site);
            }
            return beat % 2 == 0 ? List.of(site, site + 1) : List.of();
        }

        int throwingHand(int site, int beat) {
            return mode == 2 ? site % 2 : Math.floorMod(beat, 2);
        }

        int landingHand(int site, int beat, int height) {
            if (mode != 2) {
                return Math.floorMod(beat + height, 2);
            }
            return cross[site] ? 1 - site % 2 : site % 2;
        }

        /** Throws and landings of a hundred beats, counted at those that all throws could reach. */
        boolean valid() {
            int[][] balance = new int[120][2];
            boolean single = true;
            int[][] landed = new int[120][2];
            for (int beat = 0; beat < 100; beat++) {
                for (int site : sitesAt(beat)) {
                    for (int height : sites.get(site)) {
                        if (height > 0) {
                            balance[beat][throwingHand(site, beat)]--;
                            balance[beat + height][landingHand(site, beat, height)]++;
                            landed[beat + height][landingHand(site, beat, height)]++;
                        }
                    }
                }
            }
            boolean even = true;
            for (int beat = 20; beat < 90; beat++) {
                for (int hand = 0; hand < 2; hand++) {
                    even &= balance[beat][hand] == 0;
                    single &= landed[beat][hand] <= 1;
                }
            }
            return even && (mode == 1 || single);
        }

        int landingSite(int site, int height) {
            if (mode != 2) {
                return (site + height) % period();
            }
            int beat = (site / 2 * 2 + height) % period();
            return beat + landingHand(site, beat, height);
        }

        int clash() {
            if (mode == 1) {
                return clashOfMultiplex();
            }
            for (int site = 0; site < period(); site++) {
                for (int lower = 0; lower < site; lower++) {
                    if (first(site) > 0 && first(lower) > 0
                            && landingSite(site, first(site)) == landingSite(lower, first(lower))) {
                        return site;
                    }
                }
            }
            for (int site = 0; site < period(); site++) {
                for (int other = 0; other < period(); other++) {
                    if (first(site) == 0 && first(other) > 0
                            && landingSite(other, first(other)) == site) {
                        return site;
                    }
                }
            }
            return -1;
        }

        private int clashOfMultiplex() {
            for (int site = 0; site < period(); site++) {
                int landed = 0;
                for (int other = 0; other < period(); other++) {
                    for (int height : sites.get(other)) {
                        landed += height > 0 && landingSite(other, height) == site ? 1 : 0;
                    }
                }
                int thrown = 0;
                for (int height : sites.get(site)) {
                    thrown += height > 0 ? 1 : 0;
                }
                if (landed != thrown) {
                    return site;
                }
            }
            return -1;
        }

        int balls() {
            int sum = 0;
            for (List<Integer> site : sites) {
                for (int height : site) {
                    sum += height;
                }
            }
            return sum / period();
        }

        int state(int site) {
            int state = 0;
            for (int k = 0; k <= 8; k++) {
                for (int beat = site - 1; beat > site - 40; beat--) {
                    int height = first(Math.floorMod(beat, period()));
                    if (height > 0 && beat + height == site + k) {
                        state |= 1 << k;
                    }
                }
            }
            return state;
        }
    }

    private Pattern draft = new Pattern(0, 1);
    private final Pattern[] shelf = new Pattern[6];
    private List<Integer> way = List.of();
    private int[] joinedAt = {};
    private Pattern shown = null;
    private List<Ball> onFloor = List.of();
    private int now = 0;
    private int[] made = {0, 0};

    int begin(int mode, int period) {
        boolean known = mode >= 0 && mode <= 2 && period >= 1 && period <= 16;
        argument(known && (mode != 2 || period % 2 == 0));
        int before = draft.period();
        draft = new Pattern(mode, period);
        return before;
    }

    int put(int site, int height, boolean cross) {
        index(site >= 0 && site < draft.period());
        argument(height >= 0 && height <= 9);
        argument(draft.mode != 2 || height % 2 == 0);
        argument(draft.mode == 2 || !cross);
        draft.cross[site] = cross;
        return draft.sites.get(site).set(0, height);
    }

    int add(int site, int height) {
        state(draft.mode == 1);
        index(site >= 0 && site < draft.period());
        state(draft.sites.get(site).size() < 3);
        argument(height >= 0 && height <= 9);
        draft.sites.get(site).add(height);
        return draft.sites.get(site).size();
    }

    boolean valid() {
        return draft.valid();
    }

    int clash() {
        return draft.clash();
    }

    int balls() {
        state(draft.valid());
        return draft.balls();
    }

    int state(int site) {
        state(draft.mode == 0 && draft.valid());
        index(site >= 0 && site < draft.period());
        return draft.state(site);
    }

    boolean swap(int i, int j) {
        state(draft.mode == 0);
        index(i >= 0 && i < draft.period() && j >= 0 && j < draft.period());
        int landingOfI = i + draft.first(i);
        int landingOfJ = j + draft.first(j);
        int forI = landingOfJ - i;
        int forJ = landingOfI - j;
        if (Math.min(forI, forJ) < 0 || Math.max(forI, forJ) > 9) {
            return false;
        }
        draft.sites.get(i).set(0, forI);
        draft.sites.get(j).set(0, forJ);
        return true;
    }

    int canonical() {
        state(draft.mode == 0);
        String text = "";
        for (List<Integer> site : draft.sites) {
            text += site.get(0);
        }
        int best = 0;
        for (int k = 1; k < text.length(); k++) {
            if (turned(text, k).compareTo(turned(text, best)) < 0) {
                best = k;
            }
        }
        for (int site = 0; site < text.length(); site++) {
            draft.sites.get(site).set(0, turned(text, best).charAt(site) - '0');
        }
        return best;
    }

    private static String turned(String text, int first) {
        return text.substring(first) + text.substring(0, first);
    }

    int height(int site, int which) {
        index(site >= 0 && site < draft.period());
        index(which >= 0 && which < draft.sites.get(site).size());
        return draft.sites.get(site).get(which) + (draft.cross[site] ? 16 : 0);
    }

    boolean save(int slot) {
        index(slot >= 0 && slot < 6);
        boolean had = shelf[slot] != null;
        shelf[slot] = draft.copy();
        return had;
    }

    int load(int slot) {
        index(slot >= 0 && slot < 6);
        present(shelf[slot] != null);
        draft = shelf[slot].copy();
        return draft.period();
    }

    int join(int a, int b) {
        index(a >= 0 && a < 6 && b >= 0 && b < 6);
        present(shelf[a] != null && shelf[b] != null);
        Pattern from = shelf[a];
        Pattern to = shelf[b];
        argument(from.mode == 0 && to.mode == 0 && from.valid() && to.valid());
        argument(from.balls() == to.balls());
        for (int length = 0; length < 40; length++) {
            for (int site = 0; site < from.period(); site++) {
                List<Integer> found = new ArrayList<>();
                int end = wayOf(length, from.state(site), to, found);
                if (end >= 0) {
                    way = found;
                    joinedAt = new int[] {site, end};
                    return length;
                }
            }
        }
        throw new AssertionError("no way was found");
    }

    /** Tries all ways of a length by their throws; the site of the goal, or -1. */
    private static int wayOf(int length, int state, Pattern goal, List<Integer> throwsMade) {
        if (length == 0) {
            for (int site = 0; site < goal.period(); site++) {
                if (goal.state(site) == state) {
                    return site;
                }
            }
            return -1;
        }
        for (int height = 0; height <= 9; height++) {
            boolean ball = state % 2 == 1;
            int half = state / 2;
            boolean free = height == 0 || (half >> (height - 1)) % 2 == 0;
            if (ball == height > 0 && free) {
                int next = height == 0 ? half : half + (1 << (height - 1));
                throwsMade.add(height);
                int end = wayOf(length - 1, next, goal, throwsMade);
                if (end >= 0) {
                    return end;
                }
                throwsMade.remove(throwsMade.size() - 1);
            }
        }
        return -1;
    }

    int joinThrow(int k) {
        index(k >= 0 && k < way.size());
        return way.get(k);
    }

    int joinAt(int side) {
        index(side >= 0 && side < joinedAt.length);
        return joinedAt[side];
    }

    int show() {
        state(draft.valid());
        shown = draft.copy();
        now = 0;
        made = new int[] {0, 0};
        onFloor = new ArrayList<>();
        for (int beat = -30; beat < 0; beat++) {
            for (int site : shown.sitesAt(beat)) {
                for (int which = 0; which < shown.sites.get(site).size(); which++) {
                    int height = shown.sites.get(site).get(which);
                    if (height > 0 && beat + height >= 0) {
                        Ball ball = new Ball();
                        ball.landsAt = beat + height;
                        ball.landsIn = shown.landingHand(site, beat, height);
                        ball.thrownAt = beat;
                        ball.order = which;
                        onFloor.add(ball);
                    }
                }
            }
        }
        onFloor.sort(Comparator.<Ball>comparingInt(b -> b.landsAt)
            .thenComparingInt(b -> b.landsIn)
            .thenComparingInt(b -> -b.thrownAt)
            .thenComparingInt(b -> b.order));
        if (onFloor.size() != draft.balls()) {
            throw new AssertionError("the balls on the floor are not those of the draft");
        }
        return onFloor.size();
    }

    int run(int beats) {
        argument(beats >= 1 && beats <= 100);
        state(shown != null);
        int thrown = 0;
        for (int end = now + beats; now < end; now++) {
            for (int site : shown.sitesAt(now)) {
                List<Integer> above = new ArrayList<>(shown.sites.get(site));
                above.removeIf(height -> height == 0);
                int hand = shown.throwingHand(site, now);
                for (Ball ball : onFloor) {
                    if (ball.landsAt == now && ball.landsIn == hand) {
                        int height = above.remove(0);
                        ball.landsAt = now + height;
                        ball.landsIn = shown.landingHand(site, now, height);
                        made[hand]++;
                        thrown++;
                    }
                }
                if (!above.isEmpty()) {
                    throw new AssertionError("a throw without a ball");
                }
            }
        }
        return thrown;
    }

    int ball(int b) {
        index(b >= 0 && b < onFloor.size());
        return onFloor.get(b).landsAt - now;
    }

    int hand(int b) {
        index(b >= 0 && b < onFloor.size());
        return onFloor.get(b).landsIn;
    }

    int highest() {
        int highest = -1;
        for (int b = onFloor.size() - 1; b >= 0; b--) {
            if (highest < 0 || onFloor.get(b).landsAt >= onFloor.get(highest).landsAt) {
                highest = b;
            }
        }
        return highest;
    }

    int floor(int what) {
        index(what >= 0 && what <= 4);
        state(shown != null);
        return new int[] {now, made[0], made[1], onFloor.size(), shown.mode}[what];
    }

    int countValid(int period, int balls) {
        argument(period >= 1 && period <= 6 && balls >= 0 && balls <= 9);
        return countsOfPeriod(period)[balls];
    }

    int cycle(int n, int k) {
        argument(n >= 1 && n <= 4 && k >= 0);
        List<Integer> cycles = cyclesOfLength(n);
        present(k < cycles.size());
        return cycles.get(k);
    }

    static int[] countsOfPeriod(int period) {
        int[] counts = new int[10];
        int all = (int) Math.round(Math.pow(10, period));
        int[] heights = new int[period];
        for (int number = 0; number < all; number++) {
            digits(number, heights);
            if (validHeights(heights)) {
                counts[Arrays.stream(heights).sum() / period]++;
            }
        }
        return counts;
    }

    static List<Integer> cyclesOfLength(int length) {
        List<Integer> cycles = new ArrayList<>();
        int all = (int) Math.round(Math.pow(10, length));
        int[] heights = new int[length];
        for (int number = 0; number < all; number++) {
            digits(number, heights);
            if (validHeights(heights) && isCycle(heights)) {
                cycles.add(number);
            }
        }
        return cycles;
    }

    private static void digits(int number, int[] heights) {
        for (int site = heights.length - 1; site >= 0; site--) {
            heights[site] = number % 10;
            number /= 10;
        }
    }

    private static boolean validHeights(int[] heights) {
        int[] landed = new int[heights.length];
        for (int site = 0; site < heights.length; site++) {
            if (heights[site] > 0) {
                landed[(site + heights[site]) % heights.length]++;
            }
        }
        for (int site = 0; site < heights.length; site++) {
            if (landed[site] != (heights[site] > 0 ? 1 : 0)) {
                return false;
            }
        }
        return true;
    }

    private static boolean isCycle(int[] heights) {
        Pattern pattern = new Pattern(0, heights.length);
        String text = "";
        for (int site = 0; site < heights.length; site++) {
            pattern.sites.get(site).set(0, heights[site]);
            text += heights[site];
        }
        List<Integer> states = new ArrayList<>();
        for (int site = 0; site < heights.length; site++) {
            if (turned(text, site).compareTo(text) < 0 || states.contains(pattern.state(site))) {
                return false;
            }
            states.add(pattern.state(site));
        }
        return true;
    }

    private static void index(boolean good) {
        if (!good) {
            throw new IndexOutOfBoundsException();
        }
    }

    private static void argument(boolean good) {
        if (!good) {
            throw new IllegalArgumentException();
        }
    }

    private static void state(boolean good) {
        if (!good) {
            throw new IllegalStateException();
        }
    }

    private static void present(boolean good) {
        if (!good) {
            throw new NoSuchElementException();
        }
    }
}
