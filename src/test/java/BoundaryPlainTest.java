/** The boundary cases of promises 8 to 10, a run for each sentence that names one. */
public final class BoundaryPlainTest {
    private static final String STATE = " throws IllegalStateException";
    private static final String INDEX = " throws IndexOutOfBoundsException";

    public static void main(String[] args) {
        promise8RefusedState();
        promise8State();
        promise9RefusedSwap();
        promise9NotDone();
        promise9Done();
        promise10RefusedCanonical();
        promise10Canonical();
        Check.end();
    }

    private static void promise8RefusedState() {
        Run.refused("Promise 8: mode 1, though valid", "multiplex 3 3", STATE, "state(0)",
            "state(1)");
        Run.refused("Promise 8: mode 2, though valid", "sync 4 4", STATE, "state(0)", "state(1)");
        Run.refused("Promise 8: not valid", "plain 3 2 1", STATE, "state(0)", "state(2)");
        Run.refused("Promise 8: not valid, a throw 0", "plain 1 0", STATE, "state(0)", "state(1)");
        Run.refused("Promise 8: no such site", "plain 5 3 1", INDEX, "state(-1)", "state(3)",
            "state(15)", "state(16)", "state(MIN)", "state(MAX)");
        Run.refused("Promise 8: no such site of the greatest period", "plain" + " 4".repeat(16),
            INDEX, "state(-1)", "state(16)");
        Run.due("Promise 8: mended, it has states", "plain 3 2", "state(0)" + STATE,
            "put(1, 3, false) = 2", "states = 7 7");
    }

    private static void promise8State() {
        Run.due("Promise 8: no balls", "plain 0", "states = 0", "plain 0 0 0", "states = 0 0 0");
        Run.due("Promise 8: nine balls", "plain 9", "states = 511", "plain 9 9",
            "states = 511 511");
        for (int height = 1; height <= 9; height++) {
            Run.due("Promise 8: bits 0 to 8, of a throw just before",
                "plain " + height + " 0".repeat(height - 1), "state(0) = 1",
                height == 1 ? "states = 1" : "state(1) = " + (1 << (height - 1)));
        }
        Run.due("Promise 8: a ball that lands at this very beat", "plain 2 0", "state(0) = 1",
            "state(1) = 2");
        Run.due("Promise 8: throws at the beats below 0, of several rounds", "plain 5 1",
            "states = 11 21", "plain 8 0", "states = 85 170", "plain 9 0 0", "states = 73 292 146");
        Run.due("Promise 8: the first and the last of 16 sites", "plain" + " 3".repeat(14) + " 4 2",
            "state(0) = 7", "state(14) = 7", "state(15) = 11");
    }

    private static void promise9RefusedSwap() {
        Run.refused("Promise 9: mode 1", "multiplex 3 3", STATE, "swap(0, 1)", "swap(0, 0)");
        Run.refused("Promise 9: mode 2", "sync 4 4", STATE, "swap(0, 1)", "swap(1, 1)");
        Run.refused("Promise 9: no such first site", "plain 5 3 1", INDEX, "swap(-1, 0)",
            "swap(3, 0)", "swap(16, 0)", "swap(MIN, 0)", "swap(MAX, 0)");
        Run.refused("Promise 9: no such second site", "plain 5 3 1", INDEX, "swap(0, -1)",
            "swap(0, 3)", "swap(0, 16)", "swap(0, MIN)", "swap(0, MAX)");
        Run.refused("Promise 9: no such site, twice the same", "plain 5 3 1", INDEX, "swap(-1, -1)",
            "swap(3, 3)", "swap(MIN, MIN)", "swap(MAX, MAX)");
        Run.refused("Promise 9: sites do not wrap around", "plain" + " 4".repeat(16), INDEX,
            "swap(16, 1)", "swap(1, 16)", "swap(-1, 0)");
    }

    private static void promise9NotDone() {
        Run.due("Promise 9: not, when one would be -1", "plain 3 0", "swap(0, 1) = true",
            "draft = 1 2", "plain 0 0", "swap(0, 1) = false", "draft = 0 0", "swap(1, 0) = false",
            "draft = 0 0");
        Run.due("Promise 9: not, when the lower site's would be 10", "plain 9 9",
            "swap(0, 1) = false", "draft = 9 9", "swap(1, 0) = false", "draft = 9 9");
        Run.due("Promise 9: not, when one alone is none of 0 .. 9", "plain 0 5",
            "swap(0, 1) = false", "draft = 0 5", "plain 5 9", "swap(0, 1) = false", "draft = 5 9",
            "plain 5 9", "swap(1, 0) = false", "draft = 5 9");
        Run.due("Promise 9: at the beats from 0 to p - 1, not those of the next round",
            "plain 4" + " 4".repeat(15), "swap(0, 15) = false", "swap(15, 0) = false",
            "draft =" + " 4".repeat(16), "swap(15, 14) = true",
            "draft =" + " 4".repeat(14) + " 5 3");
        Run.due("Promise 9: later calls, when it was not done", "plain 0 0", "swap(0, 1) = false",
            "valid() = true", "balls() = 0", "put(0, 2, false) = 0", "swap(0, 1) = true",
            "draft = 1 1");
    }

    private static void promise9Done() {
        Run.due("Promise 9: when one becomes 0", "plain 1 5", "swap(0, 1) = true", "draft = 6 0",
            "swap(0, 1) = true", "draft = 1 5");
        Run.due("Promise 9: when one becomes 9", "plain 5 8", "swap(0, 1) = true", "draft = 9 4",
            "swap(1, 0) = true", "draft = 5 8");
        Run.due("Promise 9: 0 and 9 at once", "plain 1 8", "swap(1, 0) = true", "draft = 9 0");
        Run.due("Promise 9: the farthest sites", "plain 9 0 0 0 0 0 0 0 0 0", "swap(0, 9) = true",
            "draft = 9 0 0 0 0 0 0 0 0 0", "swap(9, 0) = true", "draft = 9 0 0 0 0 0 0 0 0 0");
        Run.due("Promise 9: when both are one site, nothing changes", "plain 5 3 1",
            "swap(0, 0) = true", "swap(1, 1) = true", "swap(2, 2) = true", "draft = 5 3 1",
            "plain 0", "swap(0, 0) = true", "draft = 0", "plain 9", "swap(0, 0) = true",
            "draft = 9");
        Run.due("Promise 9: a draft that is not valid", "plain 5 4", "valid() = false",
            "swap(0, 1) = true", "draft = 5 4", "plain 5 3 2", "swap(0, 2) = true", "draft = 4 3 3",
            "valid() = false");
    }

    private static void promise10RefusedCanonical() {
        Run.refused("Promise 10: mode 1", "multiplex 5 1", STATE, "canonical()");
        Run.refused("Promise 10: mode 2", "sync 4 2", STATE, "canonical()");
        Run.due("Promise 10: nothing turns, when it is refused", "multiplex 5 1",
            "canonical()" + STATE, "draft = 5 1", "sync 6x 2", "canonical()" + STATE,
            "draft = 6x 2");
    }

    private static void promise10Canonical() {
        Run.due("Promise 10: period 1", "plain 9", "canonical() = 0", "draft = 9");
        Run.due("Promise 10: the least already", "plain 1 5", "canonical() = 0", "draft = 1 5");
        Run.due("Promise 10: the last site becomes the first one", "plain 5 3 1", "canonical() = 2",
            "draft = 1 5 3");
        Run.due("Promise 10: the first one that differs is the last one",
            "plain 1 1 1 1 1 1 1 1 1 1 1 1 1 1 2 1", "canonical() = 15",
            "draft =" + " 1".repeat(15) + " 2");
        Run.due("Promise 10: the rotation wraps around", "plain 2 0 1 0 0 1 1", "canonical() = 3",
            "draft = 0 0 1 1 2 0 1", "plain 0 1 0 0", "canonical() = 2", "draft = 0 0 0 1");
        Run.due("Promise 10: the least site, if there are several", "plain 3 3 3",
            "canonical() = 0", "plain 3 1 3 1", "canonical() = 1", "draft = 1 3 1 3",
            "plain 4 1 2 4 1 2", "canonical() = 1", "draft = 1 2 4 1 2 4",
            "plain" + " 9 0".repeat(8), "canonical() = 1", "draft =" + " 0 9".repeat(8));
        Run.due("Promise 10: a draft that is not valid", "plain 3 2 1", "canonical() = 2",
            "draft = 1 3 2", "valid() = false");
        Run.due("Promise 10: a second time", "plain 5 3 1", "canonical() = 2", "canonical() = 0",
            "draft = 1 5 3");
    }
}
