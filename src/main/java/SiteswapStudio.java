import java.util.Arrays;
import java.util.NoSuchElementException;

/**
 * A studio for juggling patterns: drafts are written, tested, changed, kept, joined, counted and
 * listed, and shown on a floor on which every ball is known at each beat.
 */
public final class SiteswapStudio {
    public static final int NONE = -1;

    private static final int PLAIN = 0;
    private static final int MULTIPLEX = 1;
    private static final int SYNCHRONOUS = 2;

    private static final int MAX_PERIOD = 16;
    private static final int MAX_THROWS = 3;
    private static final int MAX_HEIGHT = 9;
    private static final int MAX_BALLS = MAX_HEIGHT * MAX_THROWS;
    private static final int MAX_BEATS = 100;
    private static final int HANDS = 2;
    private static final int LEFT = 0;
    private static final int RIGHT = 1;
    private static final int CROSSING = 16;
    private static final int SLOTS = 6;
    private static final int STATES = 1 << MAX_HEIGHT;
    private static final int MAX_COUNTED_PERIOD = 6;
    private static final int MAX_CYCLE = 4;

    private final Draft draft;
    private final Draft[] shelf;
    private final Joint joint;
    private final Counter counter;
    private final CycleSearch cycles;
    private final Stage stage;

    public SiteswapStudio() {
        draft = new Draft();
        shelf = new Draft[SLOTS];
        joint = new Joint();
        counter = new Counter();
        cycles = new CycleSearch();
        stage = new Stage();
    }

    public int begin(int mode, int period) throws IllegalArgumentException {
        if (mode < PLAIN || mode > SYNCHRONOUS || period < 1 || period > MAX_PERIOD) {
            throw new IllegalArgumentException("no such mode or period");
        }
        if (mode == SYNCHRONOUS && isOdd(period)) {
            throw new IllegalArgumentException("a synchronous period is even");
        }
        int before = draft.period;
        draft.clear(mode, period);
        return before;
    }

    public int put(int site, int height, boolean cross)
            throws IndexOutOfBoundsException, IllegalArgumentException {
        requireSite(site);
        requireHeight(height);
        if (draft.mode == SYNCHRONOUS ? isOdd(height) : cross) {
            throw new IllegalArgumentException("no such throw in this mode");
        }
        int before = draft.firstHeight(site);
        draft.setFirst(site, height, cross);
        return before;
    }

    public int add(int site, int height)
            throws IllegalStateException, IndexOutOfBoundsException, IllegalArgumentException {
        if (draft.mode != MULTIPLEX) {
            throw new IllegalStateException("the draft is not multiplex");
        }
        requireSite(site);
        if (draft.throwsOf(site) >= MAX_THROWS) {
            throw new IllegalStateException("the site has three throws");
        }
        requireHeight(height);
        return draft.append(site, height);
    }

    public boolean valid() {
        return draft.isValid();
    }

    public int clash() {
        return draft.firstClash();
    }

    public int balls() throws IllegalStateException {
        requireValid();
        return draft.ballCount();
    }

    public int state(int site) throws IllegalStateException, IndexOutOfBoundsException {
        requirePlain();
        requireValid();
        requireSite(site);
        return draft.stateBefore(site);
    }

    public boolean swap(int i, int j) throws IllegalStateException, IndexOutOfBoundsException {
        requirePlain();
        requireSite(i);
        requireSite(j);
        return draft.swapLandings(i, j);
    }

    public int canonical() throws IllegalStateException {
        requirePlain();
        int first = draft.leastRotation();
        draft.rotateTo(first);
        return first;
    }

    public int height(int site, int which) throws IndexOutOfBoundsException {
        requireSite(site);
        if (which < 0 || which >= draft.throwsOf(site)) {
            throw new IndexOutOfBoundsException("no such throw");
        }
        return draft.heightOf(site, which) + draft.crossingOf(site);
    }

    public boolean save(int slot) throws IndexOutOfBoundsException {
        requireSlot(slot);
        Draft kept = shelf[slot];
        boolean had = kept != null;
        if (kept == null) {
            kept = new Draft();
            shelf[slot] = kept;
        }
        kept.copyFrom(draft);
        return had;
    }

    public int load(int slot) throws IndexOutOfBoundsException, NoSuchElementException {
        requireSlot(slot);
        Draft kept = shelf[slot];
        if (kept == null) {
            throw new NoSuchElementException("the slot is empty");
        }
        draft.copyFrom(kept);
        return draft.period;
    }

    public int join(int a, int b)
            throws IndexOutOfBoundsException, NoSuchElementException, IllegalArgumentException {
        requireSlot(a);
        requireSlot(b);
        Draft from = shelf[a];
        Draft to = shelf[b];
        if (from == null || to == null) {
            throw new NoSuchElementException("the slot is empty");
        }
        if (!from.isPlainAndValid() || !to.isPlainAndValid()
                || from.ballCount() != to.ballCount()) {
            throw new IllegalArgumentException("these drafts can't be joined");
        }
        joint.connect(from, to);
        return joint.length;
    }

    public int joinThrow(int k) throws IndexOutOfBoundsException {
        if (k < 0 || k >= joint.length) {
            throw new IndexOutOfBoundsException("no such throw of a join");
        }
        return joint.throwAt(k);
    }

    public int joinAt(int side) throws IndexOutOfBoundsException {
        if (side < 0 || side > 1 || !joint.made) {
            throw new IndexOutOfBoundsException("no such side of a join");
        }
        return side == 0 ? joint.fromSite : joint.toSite;
    }

    public int countValid(int period, int balls) throws IllegalArgumentException {
        if (period < 1 || period > MAX_COUNTED_PERIOD || balls < 0 || balls > MAX_HEIGHT) {
            throw new IllegalArgumentException("no such period or number of balls");
        }
        return counter.countDrafts(period, balls);
    }

    public int cycle(int n, int k) throws IllegalArgumentException, NoSuchElementException {
        if (n < 1 || n > MAX_CYCLE || k < 0) {
            throw new IllegalArgumentException("no such length or number of a cycle");
        }
        int found = cycles.find(n, k);
        if (found == NONE) {
            throw new NoSuchElementException("there are not so many cycles");
        }
        return found;
    }

    public int show() throws IllegalStateException {
        requireValid();
        stage.open(draft);
        return stage.ballCount;
    }

    public int run(int beats) throws IllegalArgumentException, IllegalStateException {
        if (beats < 1 || beats > MAX_BEATS) {
            throw new IllegalArgumentException("no such number of beats");
        }
        requireShown();
        return stage.goOn(beats);
    }

    public int ball(int b) throws IndexOutOfBoundsException {
        requireBall(b);
        return stage.beatsUntilLanding(b);
    }

    public int hand(int b) throws IndexOutOfBoundsException {
        requireBall(b);
        return stage.landingHand(b);
    }

    public int highest() {
        return stage.lastToLand();
    }

    public int floor(int what) throws IndexOutOfBoundsException, IllegalStateException {
        if (what < 0 || what > 4) {
            throw new IndexOutOfBoundsException("no such thing of the floor");
        }
        requireShown();
        switch (what) {
            case 0:
                return stage.now;
            case 1:
                return stage.throwsMade(LEFT);
            case 2:
                return stage.throwsMade(RIGHT);
            case 3:
                return stage.ballCount;
            default:
                return stage.shown.mode;
        }
    }

    private void requireSite(int site) {
        if (!draft.hasSite(site)) {
            throw new IndexOutOfBoundsException("no such site");
        }
    }

    private static void requireHeight(int height) {
        if (height < 0 || height > MAX_HEIGHT) {
            throw new IllegalArgumentException("no such height");
        }
    }

    private static void requireSlot(int slot) {
        if (slot < 0 || slot >= SLOTS) {
            throw new IndexOutOfBoundsException("no such slot");
        }
    }

    private void requirePlain() {
        if (draft.mode != PLAIN) {
            throw new IllegalStateException("the draft is not plain");
        }
    }

    private void requireValid() {
        if (!draft.isValid()) {
            throw new IllegalStateException("the draft is not valid");
        }
    }

    private void requireShown() {
        if (!stage.isOpen) {
            throw new IllegalStateException("nothing was shown");
        }
    }

    private void requireBall(int b) {
        if (b < 0 || b >= stage.ballCount) {
            throw new IndexOutOfBoundsException("no such ball");
        }
    }

    private static boolean isOdd(int number) {
        return (number & 1) != 0;
    }

    /** A beat modulo a period: one place for it, so that the divisor is tested once for all. */
    private static int wrap(int beat, int period) {
        if (period < 1) {
            return 0;
        }
        int rest = beat % period;
        return rest < 0 ? rest + period : rest;
    }

    /** The state to which a throw leads, or NONE when the state does not allow it. */
    private static int stateAfter(int state, int height) {
        boolean lands = isOdd(state);
        int half = state >> 1;
        if (height == 0) {
            return lands ? NONE : half;
        }
        int bit = 1 << (height - 1);
        return !lands || (half & bit) != 0 ? NONE : half | bit;
    }

    /** The state from which a throw leads to this one, or NONE when there is none. */
    private static int stateFrom(int state, int height) {
        int bit = height == 0 ? 0 : 1 << (height - 1);
        if ((state & bit) != bit) {
            return NONE;
        }
        int landed = height == 0 ? 0 : 1;
        int before = (state & ~bit) << 1 | landed;
        return before < STATES ? before : NONE;
    }

    /** A pattern as it is written: its mode, its period and the throws of its sites. */
    private static final class Draft {
        private final int[] heights = new int[MAX_PERIOD * MAX_THROWS];
        private final int[] counts = new int[MAX_PERIOD];
        private final int[] crossings = new int[MAX_PERIOD];
        // Made once and used again by every call that needs a number for each site.
        private final int[] scratch = new int[MAX_PERIOD];
        private int mode;
        private int period;

        Draft() {
            mode = PLAIN;
            period = 1;
            counts[0] = 1;
        }

        void clear(int newMode, int newPeriod) {
            mode = newMode;
            period = newPeriod;
            Arrays.fill(heights, 0);
            Arrays.fill(counts, 1);
            Arrays.fill(crossings, 0);
        }

        void copyFrom(Draft other) {
            mode = other.mode;
            period = other.period;
            System.arraycopy(other.heights, 0, heights, 0, heights.length);
            System.arraycopy(other.counts, 0, counts, 0, counts.length);
            System.arraycopy(other.crossings, 0, crossings, 0, crossings.length);
        }

        boolean hasSite(int site) {
            return site >= 0 && site < period;
        }

        int throwsOf(int site) {
            return counts[site];
        }

        int heightOf(int site, int which) {
            return heights[site * MAX_THROWS + which];
        }

        /** The height of the first throw at a beat, which may lie before 0 or behind the period. */
        int firstHeight(int beat) {
            return heights[wrap(beat, period) * MAX_THROWS];
        }

        /** What a crossing throw adds to the height that is told of it, 0 for another one. */
        int crossingOf(int site) {
            return crossings[site];
        }

        void setFirst(int site, int height, boolean cross) {
            heights[site * MAX_THROWS] = height;
            crossings[site] = cross ? CROSSING : 0;
        }

        int append(int site, int height) {
            heights[site * MAX_THROWS + counts[site]] = height;
            counts[site]++;
            return counts[site];
        }

        /** The site whose throw a hand makes at a beat, or NONE when that hand rests then. */
        int siteThrowing(int beat, int hand) {
            if (mode == SYNCHRONOUS) {
                return isOdd(beat) ? NONE : wrap(beat, period) + hand;
            }
            return hand == wrap(beat, HANDS) ? wrap(beat, period) : NONE;
        }

        /** The hand in which a ball lands at a beat, when this hand throws it from this site. */
        int landingHand(int site, int hand, int landing) {
            if (mode != SYNCHRONOUS) {
                return wrap(landing, HANDS);
            }
            return crossings[site] != 0 ? RIGHT - hand : hand;
        }

        private int landingSite(int site, int height) {
            if (mode != SYNCHRONOUS) {
                return wrap(site + height, period);
            }
            int hand = wrap(site, HANDS);
            int landing = site - hand + height;
            return wrap(landing, period) + landingHand(site, hand, landing);
        }

        boolean isValid() {
            return firstClash() == NONE;
        }

        boolean isPlainAndValid() {
            return mode == PLAIN && isValid();
        }

        int firstClash() {
            Arrays.fill(scratch, 0);
            return mode == MULTIPLEX ? firstUneven() : firstMeeting();
        }

        private int firstUneven() {
            for (int site = 0; site < period; site++) {
                for (int which = 0; which < counts[site]; which++) {
                    int height = heightOf(site, which);
                    if (height > 0) {
                        scratch[site]--;
                        scratch[landingSite(site, height)]++;
                    }
                }
            }
            for (int site = 0; site < period; site++) {
                if (scratch[site] != 0) {
                    return site;
                }
            }
            return NONE;
        }

        private int firstMeeting() {
            for (int site = 0; site < period; site++) {
                int height = firstHeight(site);
                if (height > 0) {
                    int target = landingSite(site, height);
                    if (scratch[target] != 0) {
                        return site;
                    }
                    scratch[target] = 1;
                }
            }
            for (int site = 0; site < period; site++) {
                if (firstHeight(site) == 0 && scratch[site] != 0) {
                    return site;
                }
            }
            return NONE;
        }

        int ballCount() {
            int sum = 0;
            for (int site = 0; site < period; site++) {
                for (int which = 0; which < counts[site]; which++) {
                    sum += heightOf(site, which);
                }
            }
            return period < 1 ? 0 : sum / period;
        }

        int stateBefore(int site) {
            int state = 0;
            for (int ago = 1; ago <= MAX_HEIGHT; ago++) {
                int ahead = firstHeight(site - ago) - ago;
                if (ahead >= 0) {
                    state |= 1 << ahead;
                }
            }
            return state;
        }

        int siteOfState(int state) {
            for (int site = 0; site < period; site++) {
                if (stateBefore(site) == state) {
                    return site;
                }
            }
            return NONE;
        }

        boolean isCycle() {
            if (leastRotation() != 0) {
                return false;
            }
            for (int site = 1; site < period; site++) {
                if (siteOfState(stateBefore(site)) != site) {
                    return false;
                }
            }
            return true;
        }

        boolean swapLandings(int i, int j) {
            int forI = firstHeight(j) + j - i;
            int forJ = firstHeight(i) + i - j;
            if (forI < 0 || forI > MAX_HEIGHT || forJ < 0 || forJ > MAX_HEIGHT) {
                return false;
            }
            setFirst(i, forI, false);
            setFirst(j, forJ, false);
            return true;
        }

        int leastRotation() {
            int least = 0;
            for (int first = 1; first < period; first++) {
                if (isRotationLess(first, least)) {
                    least = first;
                }
            }
            return least;
        }

        private boolean isRotationLess(int one, int other) {
            for (int k = 0; k < period; k++) {
                int difference = firstHeight(one + k) - firstHeight(other + k);
                if (difference != 0) {
                    return difference < 0;
                }
            }
            return false;
        }

        void rotateTo(int first) {
            for (int site = 0; site < period; site++) {
                scratch[site] = firstHeight(first + site);
            }
            for (int site = 0; site < period; site++) {
                setFirst(site, scratch[site], false);
            }
        }
    }

    /** The latest join: the shortest way through the graph of states, and the sites at its ends. */
    private static final class Joint {
        private final int[] distances = new int[STATES];
        private final int[] queue = new int[STATES];
        private final int[] way = new int[STATES];
        private int queued;
        private int length;
        private boolean made;
        private int fromSite;
        private int toSite;

        void connect(Draft from, Draft to) {
            measureDistances(to);
            fromSite = nearestSite(from);
            toSite = to.siteOfState(walk(from.stateBefore(fromSite)));
            made = true;
        }

        int throwAt(int k) {
            return way[k];
        }

        // From the goal backwards: then the first way by its throws can be walked without a search.
        private void measureDistances(Draft goal) {
            Arrays.fill(distances, NONE);
            queued = 0;
            for (int site = 0; site < goal.period; site++) {
                reach(goal.stateBefore(site), 0);
            }
            for (int next = 0; next < STATES; next++) {
                if (next >= queued) {
                    return;
                }
                int state = queue[next];
                for (int height = 0; height <= MAX_HEIGHT; height++) {
                    reach(stateFrom(state, height), distances[state] + 1);
                }
            }
        }

        private void reach(int state, int distance) {
            if (state != NONE && distances[state] == NONE) {
                distances[state] = distance;
                queue[queued] = state;
                queued++;
            }
        }

        private int nearestSite(Draft start) {
            int nearest = 0;
            for (int site = 1; site < start.period; site++) {
                if (distanceOf(start, site) < distanceOf(start, nearest)) {
                    nearest = site;
                }
            }
            return nearest;
        }

        private int distanceOf(Draft start, int site) {
            return distances[start.stateBefore(site)];
        }

        private int walk(int start) {
            int state = start;
            length = 0;
            for (int left = distances[start]; left > 0; left--) {
                int height = leastThrow(state, left - 1);
                if (height == NONE) {
                    return state;
                }
                way[length] = height;
                length++;
                state = stateAfter(state, height);
            }
            return state;
        }

        private int leastThrow(int state, int distance) {
            for (int height = 0; height <= MAX_HEIGHT; height++) {
                int next = stateAfter(state, height);
                if (next != NONE && distances[next] == distance) {
                    return height;
                }
            }
            return NONE;
        }
    }

    /** Counts the valid plain drafts by the sets of sites on which their first throws land. */
    private static final class Counter {
        private static final int SUMS = MAX_COUNTED_PERIOD * MAX_HEIGHT + 1;

        // How many rows of first throws land on a set of sites, with a sum of heights.
        private final int[] rows = new int[(1 << MAX_COUNTED_PERIOD) * SUMS];

        int countDrafts(int period, int balls) {
            int all = (1 << period) - 1;
            Arrays.fill(rows, 0);
            rows[0] = 1;
            for (int landed = 0; landed < all; landed++) {
                throwNext(landed, period);
            }
            return rows[all * SUMS + period * balls];
        }

        // A throw 0 counts as one that lands on its own site: so it keeps others away from there.
        private void throwNext(int landed, int period) {
            int site = Integer.bitCount(landed);
            for (int height = 0; height <= MAX_HEIGHT; height++) {
                int bit = 1 << wrap(site + height, period);
                if ((landed & bit) == 0) {
                    addRows(landed, landed | bit, height);
                }
            }
        }

        private void addRows(int from, int to, int height) {
            for (int sum = height; sum < SUMS; sum++) {
                rows[to * SUMS + sum] += rows[from * SUMS + sum - height];
            }
        }
    }

    /** Goes through the cycles of a length in their order. */
    private static final class CycleSearch {
        private final Draft candidate = new Draft();
        private int toPass;

        int find(int length, int k) {
            candidate.clear(PLAIN, length);
            toPass = k;
            return search(0, 0, 0);
        }

        /** Tries all heights from a site on, landed being the set of sites that are taken. */
        private int search(int site, int landed, int digits) {
            if (!candidate.hasSite(site)) {
                if (!candidate.isCycle()) {
                    return NONE;
                }
                toPass--;
                return toPass < 0 ? digits : NONE;
            }
            // No height below the first one: the draft would not be the least of its rotations.
            int least = site == 0 ? 0 : candidate.firstHeight(0);
            for (int height = least; height <= MAX_HEIGHT; height++) {
                int bit = 1 << wrap(site + height, candidate.period);
                if ((landed & bit) == 0) {
                    candidate.setFirst(site, height, false);
                    int found = search(site + 1, landed | bit, digits * 10 + height);
                    if (found != NONE) {
                        return found;
                    }
                }
            }
            return NONE;
        }
    }

    /** The floor: a draft as it was when it was shown, and where each of its balls is. */
    private static final class Stage {
        private final Draft shown = new Draft();
        private final int[] landsAt = new int[MAX_BALLS];
        private final int[] landsIn = new int[MAX_BALLS];
        private final int[] made = new int[HANDS];
        private boolean isOpen;
        private int now;
        private int ballCount;

        void open(Draft draft) {
            shown.copyFrom(draft);
            isOpen = true;
            now = 0;
            made[LEFT] = 0;
            made[RIGHT] = 0;
            numberBalls();
        }

        private void numberBalls() {
            ballCount = 0;
            for (int landing = 0; landing < MAX_HEIGHT; landing++) {
                for (int hand = LEFT; hand <= RIGHT; hand++) {
                    numberBallsLanding(landing, hand);
                }
            }
        }

        private void numberBallsLanding(int landing, int hand) {
            for (int beat = -1; beat >= landing - MAX_HEIGHT; beat--) {
                for (int thrower = LEFT; thrower <= RIGHT; thrower++) {
                    int site = shown.siteThrowing(beat, thrower);
                    if (site != NONE && shown.landingHand(site, thrower, landing) == hand) {
                        numberBallsOf(site, landing - beat, landing, hand);
                    }
                }
            }
        }

        private void numberBallsOf(int site, int height, int landing, int hand) {
            for (int which = 0; which < shown.throwsOf(site); which++) {
                if (shown.heightOf(site, which) == height && ballCount < MAX_BALLS) {
                    landsAt[ballCount] = landing;
                    landsIn[ballCount] = hand;
                    ballCount++;
                }
            }
        }

        int goOn(int beats) {
            int thrown = 0;
            for (int k = 0; k < beats; k++) {
                for (int hand = LEFT; hand <= RIGHT; hand++) {
                    thrown += throwFrom(hand);
                }
                now++;
            }
            return thrown;
        }

        private int throwFrom(int hand) {
            int site = shown.siteThrowing(now, hand);
            if (site == NONE) {
                return 0;
            }
            int thrown = 0;
            int which = NONE;
            for (int b = 0; b < ballCount; b++) {
                if (landsAt[b] == now && landsIn[b] == hand) {
                    which = nextThrow(site, which + 1);
                    if (which == NONE) {
                        break;
                    }
                    landsAt[b] = now + shown.heightOf(site, which);
                    landsIn[b] = shown.landingHand(site, hand, landsAt[b]);
                    thrown++;
                }
            }
            made[hand] += thrown;
            return thrown;
        }

        private int nextThrow(int site, int from) {
            for (int which = from; which < shown.throwsOf(site); which++) {
                if (shown.heightOf(site, which) > 0) {
                    return which;
                }
            }
            return NONE;
        }

        int beatsUntilLanding(int b) {
            return landsAt[b] - now;
        }

        int landingHand(int b) {
            return landsIn[b];
        }

        int throwsMade(int hand) {
            return made[hand];
        }

        int lastToLand() {
            int last = NONE;
            for (int b = 0; b < ballCount; b++) {
                if (last == NONE || landsAt[b] > landsAt[last]) {
                    last = b;
                }
            }
            return last;
        }
    }
}
