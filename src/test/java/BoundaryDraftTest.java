import java.util.ArrayList;
import java.util.List;

/** The boundary cases of promises 1 to 7 and 11, a run for each sentence that names one. */
public final class BoundaryDraftTest {
    private static final String ARGUMENT = " throws IllegalArgumentException";
    private static final String STATE = " throws IllegalStateException";
    private static final String INDEX = " throws IndexOutOfBoundsException";
    private static final String MISSING = " throws NoSuchElementException";

    public static void main(String[] args) {
        promise1NewObject();
        promise2RefusedBegin();
        promise2Begin();
        promise3RefusedPut();
        promise3Put();
        promise4RefusedAdd();
        promise4AskedInThisOrder();
        promise4Add();
        promise5PlainAndSynchronous();
        promise5Multiplex();
        promise6PlainClash();
        promise6SynchronousClash();
        promise6MultiplexClash();
        promise7RefusedBalls();
        promise7Balls();
        promise11Height();
        Check.end();
    }

    private static void promise1NewObject() {
        Run.due("Promise 1: a draft of mode 0", "add(0, 1)" + STATE, "put(0, 2, true)" + ARGUMENT,
            "state(0) = 0", "swap(0, 0) = true", "canonical() = 0", "put(0, 3, false) = 0");
        Run.due("Promise 1: period 1", "height(1, 0)" + INDEX, "put(1, 0, false)" + INDEX,
            "begin(0, 1) = 1");
        Run.due("Promise 1: height 0", "draft = 0", "height(0, 1)" + INDEX, "valid() = true",
            "clash() = -1", "balls() = 0");
        Run.due("Promise 1: an empty shelf", "load(0)" + MISSING, "load(1)" + MISSING,
            "load(2)" + MISSING, "load(3)" + MISSING, "load(4)" + MISSING, "load(5)" + MISSING,
            "join(0, 0)" + MISSING, "save(0) = false", "save(1) = false", "save(2) = false",
            "save(3) = false", "save(4) = false", "save(5) = false");
        Run.due("Promise 1: an empty floor", "run(1)" + STATE, "floor(0)" + STATE,
            "floor(1)" + STATE, "floor(2)" + STATE, "floor(3)" + STATE, "floor(4)" + STATE,
            "ball(0)" + INDEX, "hand(0)" + INDEX, "highest() = -1");
        SiteswapStudio used = Patterns.plain(new SiteswapStudio(), "51");
        used.save(0);
        used.join(0, 0);
        used.show();
        Run.due("Promise 1: new beside one in use", "draft = 0", "load(0)" + MISSING,
            "joinAt(0)" + INDEX, "floor(3)" + STATE, "highest() = -1");
    }

    private static void promise2RefusedBegin() {
        for (String draft : new String[] {"plain 5 1", "multiplex 1 234", "sync 6x 4 4 2x"}) {
            Run.refused("Promise 2: a mode too small", draft, ARGUMENT, "begin(-1, 2)",
                "begin(MIN, 2)");
            Run.refused("Promise 2: a mode too large", draft, ARGUMENT, "begin(3, 2)",
                "begin(MAX, 2)");
        }
        for (int mode = 0; mode <= 2; mode++) {
            String begin = "begin(" + mode + ", ";
            Run.refused("Promise 2: a period too small", "multiplex 1 234", ARGUMENT, begin + "0)",
                begin + "-1)", begin + "-2)", begin + "MIN)");
            Run.refused("Promise 2: a period too large", "sync 2x 4", ARGUMENT, begin + "17)",
                begin + "18)", begin + "MAX)");
        }
        for (int period = 1; period <= 15; period += 2) {
            Run.refused("Promise 2: an odd period in mode 2", "plain 3", ARGUMENT,
                "begin(2, " + period + ")");
        }
    }

    private static void promise2Begin() {
        List<String> rows = new ArrayList<>();
        int before = 1;
        for (int mode = 0; mode <= 2; mode++) {
            int step = mode == 2 ? 2 : 1;
            for (int period = step; period <= 16; period += step) {
                rows.add("begin(" + mode + ", " + period + ") = " + before);
                before = period;
            }
        }
        Run.due("Promise 2: every mode and period, the least and the greatest too",
            rows.toArray(new String[0]));
        String zeros = "draft =" + " 0".repeat(16);
        Run.due("Promise 2: the greatest period has 16 sites", "begin(0, 16) = 1", zeros,
            "begin(1, 16) = 16", zeros, "begin(2, 16) = 16", zeros);
        Run.due("Promise 2: one throw of height 0 at each site, where there were three",
            "multiplex" + " 999".repeat(16), "begin(1, 1) = 16", "draft = 0", "begin(1, 16) = 1",
            zeros);
        Run.due("Promise 2: not crossing, where it crossed", "sync 8x 8x 8x 8x", "begin(2, 2) = 4",
            "draft = 0 0", "begin(2, 4) = 2", "draft = 0 0 0 0");
        Run.due("Promise 2: the period that it had, when a call was refused between",
            "begin(0, 7) = 1", "begin(0, 17)" + ARGUMENT, "begin(2, 3)" + ARGUMENT,
            "begin(0, 1) = 7");
        Run.due("Promise 2: a loaded period is the one that it had", "begin(0, 16) = 1",
            "save(0) = false", "begin(0, 2) = 16", "load(0) = 16", "begin(0, 1) = 16");
        Run.due("Promise 2: only the draft is new", "plain 1 5", "save(0) = false", "plain 3",
            "save(1) = false", "join(0, 1) = 1", "show() = 3", "run(2) = 2", "begin(2, 2) = 1",
            "way = 2", "joinAt(0) = 1", "floor(0) = 2", "floor(3) = 3", "floor(4) = 0",
            "load(0) = 2", "draft = 1 5");
    }

    private static void promise3RefusedPut() {
        String[] drafts = {"plain 5 3 1", "multiplex 123 4 5", "sync 6x 4 4 2x"};
        for (String draft : drafts) {
            int period = draft.split(" ").length - 1;
            Run.refused("Promise 3: no such site", draft, INDEX, "put(-1, 2, false)",
                "put(" + period + ", 2, false)", "put(15, 2, false)", "put(16, 2, false)",
                "put(MIN, 2, false)", "put(MAX, 2, false)");
            Run.refused("Promise 3: a height too small", draft, ARGUMENT, "put(0, -1, false)",
                "put(0, -2, false)", "put(0, MIN, false)");
            Run.refused("Promise 3: a height too large", draft, ARGUMENT, "put(0, 10, false)",
                "put(0, 11, false)", "put(0, MAX, false)");
        }
        Run.refused("Promise 3: no such site of the greatest period", "plain" + " 4".repeat(16),
            INDEX, "put(16, 4, false)", "put(-1, 4, false)");
        Run.refused("Promise 3: odd in mode 2", drafts[2], ARGUMENT, "put(0, 1, false)",
            "put(1, 3, true)", "put(2, 5, false)", "put(3, 7, true)", "put(0, 9, false)");
        Run.refused("Promise 3: heights too small and too large that cross", drafts[2], ARGUMENT,
            "put(0, -2, true)", "put(0, 10, true)", "put(0, 16, true)");
        Run.refused("Promise 3: it crosses in mode 0", drafts[0], ARGUMENT, "put(0, 2, true)",
            "put(1, 0, true)", "put(2, 3, true)");
        Run.refused("Promise 3: it crosses in mode 1", drafts[1], ARGUMENT, "put(0, 2, true)",
            "put(1, 0, true)", "put(2, 3, true)");
    }

    private static void promise3Put() {
        Run.due("Promise 3: the least and the greatest height", "begin(0, 2) = 1",
            "put(0, 9, false) = 0", "put(1, 9, false) = 0", "draft = 9 9", "put(0, 0, false) = 9",
            "draft = 0 9");
        Run.due("Promise 3: the first and the last of 16 sites", "begin(0, 16) = 1",
            "put(0, 3, false) = 0", "put(15, 4, false) = 0", "put(15, 5, false) = 4",
            "draft = 3" + " 0".repeat(14) + " 5");
        Run.due("Promise 3: the others stay, with three throws", "multiplex 1 234 5",
            "put(1, 0, false) = 2", "draft = 1 034 5", "put(1, 9, false) = 0", "draft = 1 934 5");
        Run.due("Promise 3: even heights in mode 2, crossing or not", "begin(2, 2) = 1",
            "put(0, 8, true) = 0", "put(1, 8, false) = 0", "draft = 8x 8", "put(0, 0, false) = 8",
            "put(1, 0, false) = 8", "draft = 0 0");
        Run.due("Promise 3: a throw that crossed is set anew", "sync 4x 4x", "put(0, 4, false) = 4",
            "draft = 4 4x", "put(0, 2, true) = 4", "draft = 2x 4x");
        Run.due("Promise 3: the height that it had, when a call was refused between", "plain 5 1",
            "put(0, 10, false)" + ARGUMENT, "put(0, 3, true)" + ARGUMENT,
            "put(2, 3, false)" + INDEX, "put(0, 3, false) = 5", "put(1, 3, false) = 1",
            "balls() = 3");
    }

    private static void promise4RefusedAdd() {
        Run.refused("Promise 4: mode 0", "plain 5 1", STATE, "add(0, 0)", "add(1, 9)");
        Run.refused("Promise 4: mode 2", "sync 4x 4x", STATE, "add(0, 0)", "add(1, 8)");
        Run.refused("Promise 4: no such site", "multiplex 1 234", INDEX, "add(-1, 1)", "add(2, 1)",
            "add(15, 1)", "add(16, 1)", "add(MIN, 1)", "add(MAX, 1)");
        Run.refused("Promise 4: no such site of the greatest period", "multiplex" + " 4".repeat(16),
            INDEX, "add(-1, 1)", "add(16, 1)");
        Run.refused("Promise 4: it has three", "multiplex 1 234", STATE, "add(1, 0)", "add(1, 9)");
        Run.refused("Promise 4: a height too small", "multiplex 1 234", ARGUMENT, "add(0, -1)",
            "add(0, MIN)");
        Run.refused("Promise 4: a height too large", "multiplex 1 234", ARGUMENT, "add(0, 10)",
            "add(0, MAX)");
    }

    private static void promise4AskedInThisOrder() {
        Run.refused("Promise 4: the mode before the site", "plain 5 1", STATE, "add(-1, 1)",
            "add(2, 1)");
        Run.refused("Promise 4: the mode before the height", "sync 2 2", STATE, "add(0, -1)",
            "add(0, 10)", "add(2, 10)");
        Run.refused("Promise 4: the site before the three and the height", "multiplex 1 234", INDEX,
            "add(2, -1)", "add(2, 10)", "add(-1, 10)");
        Run.refused("Promise 4: the three before the height", "multiplex 1 234", STATE,
            "add(1, -1)", "add(1, 10)");
    }

    private static void promise4Add() {
        Run.due("Promise 4: up to three throws", "begin(1, 1) = 1", "add(0, 9) = 2",
            "add(0, 0) = 3", "draft = 090", "add(0, 1)" + STATE, "draft = 090",
            "height(0, 3)" + INDEX);
        Run.due("Promise 4: the first and the last of 16 sites", "begin(1, 16) = 1",
            "add(0, 1) = 2", "add(15, 2) = 2", "add(15, 3) = 3",
            "draft = 01" + " 0".repeat(14) + " 023");
        Run.due("Promise 4: a refused height adds nothing", "multiplex 12", "add(0, 10)" + ARGUMENT,
            "add(0, -1)" + ARGUMENT, "add(0, 3) = 3", "draft = 123");
        Run.due("Promise 4: a new draft has room again", "multiplex 123", "add(0, 4)" + STATE,
            "begin(1, 1) = 1", "add(0, 4) = 2", "draft = 04");
    }

    private static void promise5PlainAndSynchronous() {
        for (int height = 0; height <= 9; height++) {
            Run.due("Promise 5: period 1", "plain " + height, "valid() = true");
        }
        Run.due("Promise 5: a throw 0 sends no ball", "plain 0 0 0", "valid() = true");
        Run.due("Promise 5: two land at one beat", "plain 3 2 1", "valid() = false");
        Run.due("Promise 5: two land at one beat of the next round", "plain 2 1",
            "valid() = false");
        Run.due("Promise 5: one lands where the throw is 0", "plain 1 0", "valid() = false");
        Run.due("Promise 5: one lands where the throw is 0 of the next round", "plain 0 1",
            "valid() = false");
        Run.due("Promise 5: landings behind the end of 16 sites",
            "plain" + " 3".repeat(14) + " 4 2", "valid() = true", "put(15, 3, false) = 2",
            "valid() = false");
        Run.due("Promise 5: heights above the period", "plain 9 3", "valid() = true",
            "plain 9 7 8", "valid() = true", "plain 9 8", "valid() = false");
        Run.due("Promise 5: no throw, synchronous", "begin(2, 2) = 1", "valid() = true",
            "put(0, 0, true) = 0", "valid() = true");
        Run.due("Promise 5: at each beat and hand", "sync 4 4", "valid() = true", "sync 4x 4x",
            "valid() = true", "sync 4x 4", "valid() = false");
        Run.due("Promise 5: a ball lands in the hand whose throw is 0", "sync 0 4",
            "valid() = true", "sync 0 4x", "valid() = false");
        Run.due("Promise 5: synchronous behind the end of six sites", "sync 0 0 2 0 4 0",
            "valid() = true", "sync 0 0 4 0 2 0", "valid() = false", "clash() = 4");
        Run.due("Promise 5: synchronous behind the end of 16 sites", "sync" + " 8x".repeat(16),
            "valid() = true", "put(15, 8, false) = 8", "valid() = false");
    }

    private static void promise5Multiplex() {
        Run.due("Promise 5: three at one beat", "multiplex 999", "valid() = true",
            "multiplex 3 3 3", "valid() = true");
        Run.due("Promise 5: more than three land", "multiplex 222 222 3 111", "valid() = false");
        Run.due("Promise 5: throws 0 are not counted", "multiplex 003", "valid() = true",
            "multiplex 20 00", "valid() = true", "multiplex 10 00", "valid() = false");
        Run.due("Promise 5: too few land", "multiplex 3 33 1", "valid() = false");
        Run.due("Promise 5: multiplex behind the end of 16 sites",
            "multiplex" + " 33".repeat(14) + " 43 23", "valid() = true", "put(15, 3, false) = 2",
            "valid() = false");
    }

    private static void promise6PlainClash() {
        Run.due("Promise 6: NONE, when it is valid", "clash() = -1", "plain 5 3 1", "clash() = -1",
            "plain 9", "clash() = -1", "plain" + " 0".repeat(16), "clash() = -1");
        Run.due("Promise 6: the least site that meets a lower one", "plain 3 2 1 2", "clash() = 1",
            "plain 1 3 2 1", "clash() = 2");
        Run.due("Promise 6: the last of 16 sites", "plain" + " 3".repeat(15) + " 4",
            "clash() = 15");
        Run.due("Promise 6: modulo the period", "plain 2 1", "clash() = 1", "plain 9 1 0 3",
            "clash() = 3", "plain 1 9", "clash() = -1", "plain 2 9", "clash() = 1");
        Run.due("Promise 6: a throw 0 meets nothing", "plain 0 3 0 0", "clash() = 0",
            "plain 0 0 4 0", "clash() = -1");
        Run.due("Promise 6: or else a throw 0 at which a ball lands", "plain 1 0", "clash() = 1",
            "plain 0 1", "clash() = 0", "plain" + " 0".repeat(14) + " 1 0", "clash() = 15",
            "plain 1 0 1 0", "clash() = 1");
        Run.due("Promise 6: a meeting comes before a throw 0 at a lower site", "plain 0 3 2 1",
            "clash() = 2", "plain 0 2 2 1", "clash() = 3");
    }

    private static void promise6SynchronousClash() {
        Run.due("Promise 6: the same beat and hand", "sync 4x 4", "clash() = 1", "sync 4 4",
            "clash() = -1", "sync 4x 4x", "clash() = -1");
        Run.due("Promise 6: the same beat, the other hand", "sync 2 2 2 2", "clash() = -1",
            "sync 2x 2x 2x 2", "clash() = 3");
        Run.due("Promise 6: modulo the period, synchronous", "sync 4 4 2 8", "clash() = 2",
            "sync 8 8 4 4", "clash() = -1", "sync" + " 8".repeat(15) + " 6", "clash() = 15");
        Run.due("Promise 6: a throw 0 in that hand", "sync 0 4x", "clash() = 0", "sync 4x 0",
            "clash() = 1", "sync 0 4", "clash() = -1");
        Run.due("Promise 6: a crossing throw 0 sends none", "sync 0x 4", "clash() = -1",
            "sync 0x 0x", "clash() = -1", "sync 4x 0x", "clash() = 1");
    }

    private static void promise6MultiplexClash() {
        Run.due("Promise 6: multiplex, NONE", "multiplex 999", "clash() = -1", "multiplex 000 0",
            "clash() = -1", "multiplex 4 43 1", "clash() = -1");
        Run.due("Promise 6: more land than are thrown", "multiplex 4 43 2", "clash() = 0",
            "multiplex 3 1 33", "clash() = 1");
        Run.due("Promise 6: fewer land than are thrown", "multiplex 3 33 1", "clash() = 0",
            "multiplex 3 31 3", "clash() = 1");
        Run.due("Promise 6: none are thrown where one lands", "multiplex 1 0", "clash() = 0",
            "multiplex 0 1", "clash() = 0", "multiplex 3 0 20", "clash() = 1");
        Run.due("Promise 6: the last of 16 sites, multiplex",
            "multiplex" + " 3".repeat(12) + " 3 3 3 33", "clash() = 2",
            "multiplex" + " 0".repeat(14) + " 1 0", "clash() = 14");
    }

    private static void promise7RefusedBalls() {
        Run.refused("Promise 7: not valid, mode 0", "plain 3 2 1", STATE, "balls()");
        Run.refused("Promise 7: not valid, a throw 0", "plain 1 0 0 3", STATE, "balls()");
        Run.refused("Promise 7: not valid, mode 1", "multiplex 3 2 1", STATE, "balls()");
        Run.refused("Promise 7: not valid, mode 2", "sync 4x 4", STATE, "balls()");
        Run.due("Promise 7: mended, it has balls", "plain 3 2 1", "balls()" + STATE,
            "put(1, 3, false) = 2", "balls()" + STATE, "put(2, 3, false) = 1", "balls() = 3");
    }

    private static void promise7Balls() {
        Run.due("Promise 7: no balls", "plain 0", "balls() = 0", "plain" + " 0".repeat(16),
            "balls() = 0", "multiplex 000", "balls() = 0", "sync 0x 0", "balls() = 0");
        Run.due("Promise 7: the most balls", "plain" + " 9".repeat(16), "balls() = 9", "plain 9",
            "balls() = 9", "multiplex 999", "balls() = 27", "sync 8x 8x", "balls() = 8");
        Run.due("Promise 7: the sum of all heights divided by p", "multiplex 31 0 41 0",
            "balls()" + STATE, "multiplex 22 0", "balls() = 2", "sync 4x 2x", "balls() = 3");
        Run.due("Promise 7: of three throws the last, and then the next site", "multiplex 222 2",
            "balls() = 4", "multiplex 2 222", "balls() = 4");
    }

    private static void promise11Height() {
        String[] drafts = {"plain 5 3 1", "multiplex 123 4 5", "sync 6x 4 4 2x"};
        for (String draft : drafts) {
            int period = draft.split(" ").length - 1;
            Run.refused("Promise 11: no such site", draft, INDEX, "height(-1, 0)",
                "height(" + period + ", 0)", "height(16, 0)", "height(MIN, 0)", "height(MAX, 0)");
            Run.refused("Promise 11: a throw too small", draft, INDEX, "height(0, -1)",
                "height(1, -1)", "height(0, MIN)");
            Run.refused("Promise 11: a throw too large", draft, INDEX, "height(0, 3)",
                "height(1, 1)", "height(2, 1)", "height(1, 2)", "height(0, MAX)");
        }
        Run.refused("Promise 11: one throw in mode 0", drafts[0], INDEX, "height(0, 1)");
        Run.refused("Promise 11: one throw in mode 2", drafts[2], INDEX, "height(0, 1)");
        Run.refused("Promise 11: a site behind 16", "plain" + " 4".repeat(16), INDEX,
            "height(16, 0)");
        Run.due("Promise 11: the first and the last of three", "multiplex 123 4",
            "height(0, 0) = 1", "height(0, 1) = 2", "height(0, 2) = 3", "height(1, 0) = 4");
        Run.due("Promise 11: the last of 16 sites", "plain" + " 0".repeat(15) + " 9",
            "height(15, 0) = 9", "height(14, 0) = 0");
        Run.due("Promise 11: 16 more if it crosses", "sync 0x 8x 0 8", "height(0, 0) = 16",
            "height(1, 0) = 24", "height(2, 0) = 0", "height(3, 0) = 8");
        Run.due("Promise 11: sites of a longer draft are gone", "plain 1 2 3", "begin(0, 2) = 3",
            "height(1, 0) = 0", "height(2, 0)" + INDEX);
    }
}
