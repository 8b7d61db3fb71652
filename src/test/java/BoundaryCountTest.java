/** The boundary cases of promises 17 and 18, a run for each sentence that names one. */
public final class BoundaryCountTest {
    private static final String ARGUMENT = " throws IllegalArgumentException";
    private static final String MISSING = " throws NoSuchElementException";

    public static void main(String[] args) {
        promise17RefusedCountValid();
        promise17CountValid();
        promise18RefusedCycle();
        promise18NotSoMany();
        promise18Cycle();
        Check.end();
    }

    private static void promise17RefusedCountValid() {
        Run.refused("Promise 17: a period too small", "plain 5 3 1", ARGUMENT, "countValid(0, 3)",
            "countValid(-1, 3)", "countValid(MIN, 3)");
        Run.refused("Promise 17: a period too large", "multiplex 1 234", ARGUMENT,
            "countValid(7, 3)", "countValid(16, 3)", "countValid(MAX, 3)");
        Run.refused("Promise 17: too few balls", "sync 4x 2x", ARGUMENT, "countValid(3, -1)",
            "countValid(6, MIN)");
        Run.refused("Promise 17: too many balls", "plain 3 2 1", ARGUMENT, "countValid(1, 10)",
            "countValid(6, 10)", "countValid(3, MAX)");
        Run.refused("Promise 17: both are none of these", "plain 3", ARGUMENT, "countValid(0, -1)",
            "countValid(7, 10)", "countValid(MIN, MAX)");
        Run.due("Promise 17: it counts on, when a call was refused", "countValid(2, 4) = 9",
            "countValid(7, 4)" + ARGUMENT, "countValid(2, 10)" + ARGUMENT, "countValid(2, 4) = 9");
    }

    private static void promise17CountValid() {
        Run.due("Promise 17: the least period", "countValid(1, 0) = 1", "countValid(1, 1) = 1",
            "countValid(1, 5) = 1", "countValid(1, 9) = 1");
        Run.due("Promise 17: the greatest period", "countValid(6, 0) = 1", "countValid(6, 1) = 63",
            "countValid(6, 4) = 4833", "countValid(6, 5) = 4833", "countValid(6, 8) = 63",
            "countValid(6, 9) = 1");
        Run.due("Promise 17: no balls, and the most", "countValid(2, 0) = 1",
            "countValid(2, 9) = 1", "countValid(3, 0) = 1", "countValid(3, 9) = 1",
            "countValid(4, 0) = 1", "countValid(4, 9) = 1", "countValid(5, 0) = 1",
            "countValid(5, 9) = 1");
        Run.due("Promise 17: heights up to 9 alone", "countValid(2, 4) = 9", "countValid(2, 5) = 9",
            "countValid(3, 8) = 7");
        Run.due("Promise 17: the draft is left alone", "multiplex 123 4", "countValid(6, 3) = 2527",
            "draft = 123 4");
    }

    private static void promise18RefusedCycle() {
        Run.refused("Promise 18: n too small", "plain 5 3 1", ARGUMENT, "cycle(0, 0)",
            "cycle(-1, 0)", "cycle(MIN, 0)");
        Run.refused("Promise 18: n too large", "multiplex 1 234", ARGUMENT, "cycle(5, 0)",
            "cycle(16, 0)", "cycle(MAX, 0)");
        Run.refused("Promise 18: k too small", "sync 4x 2x", ARGUMENT, "cycle(1, -1)",
            "cycle(4, -1)", "cycle(2, MIN)");
        Run.refused("Promise 18: n and k are none of these", "plain 3", ARGUMENT, "cycle(0, -1)",
            "cycle(5, -1)", "cycle(5, MAX)", "cycle(0, MAX)");
    }

    private static void promise18NotSoMany() {
        Run.refused("Promise 18: one behind the last of 1 throw", "plain 5 3 1", MISSING,
            "cycle(1, 10)", "cycle(1, MAX)");
        Run.refused("Promise 18: one behind the last of 2 throws", "multiplex 1 234", MISSING,
            "cycle(2, 20)", "cycle(2, MAX)");
        Run.refused("Promise 18: one behind the last of 3 throws", "sync 4x 2x", MISSING,
            "cycle(3, 64)", "cycle(3, MAX)");
        Run.refused("Promise 18: one behind the last of 4 throws", "plain 3 2 1", MISSING,
            "cycle(4, 188)", "cycle(4, MAX)");
        Run.due("Promise 18: the first one, when a call was refused", "cycle(3, 64)" + MISSING,
            "cycle(3, 0) = 3", "cycle(5, 0)" + ARGUMENT, "cycle(3, 63) = 699",
            "cycle(3, -1)" + ARGUMENT, "cycle(3, 1) = 6");
    }

    private static void promise18Cycle() {
        Run.due("Promise 18: 1 throw, the first and the last", "cycle(1, 0) = 0", "cycle(1, 1) = 1",
            "cycle(1, 9) = 9");
        Run.due("Promise 18: 2 throws, the first and the last", "cycle(2, 0) = 2",
            "cycle(2, 1) = 4", "cycle(2, 19) = 79");
        Run.due("Promise 18: 3 throws, the first and the last", "cycle(3, 0) = 3",
            "cycle(3, 1) = 6", "cycle(3, 63) = 699");
        Run.due("Promise 18: 4 throws, the first and the last", "cycle(4, 0) = 4",
            "cycle(4, 1) = 8", "cycle(4, 187) = 5999");
        Run.due("Promise 18: no draft whose states come twice", "cycle(2, 0) = 2",
            "cycle(2, 4) = 13");
        Run.due("Promise 18: the draft is left alone", "multiplex 123 4", "cycle(4, 7) = 84",
            "draft = 123 4");
    }
}
