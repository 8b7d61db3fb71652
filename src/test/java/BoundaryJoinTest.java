/** The boundary cases of promises 14 to 16, a run for each sentence that names one. */
public final class BoundaryJoinTest {
    private static final String ARGUMENT = " throws IllegalArgumentException";
    private static final String INDEX = " throws IndexOutOfBoundsException";
    private static final String MISSING = " throws NoSuchElementException";

    public static void main(String[] args) {
        promise14RefusedSlots();
        promise14RefusedDrafts();
        promise14TheJoinBeforeStays();
        promise14ShortestWays();
        promise14LeastSites();
        promise14FirstWay();
        promise15JoinThrow();
        promise16JoinAt();
        Check.end();
    }

    private static void promise14RefusedSlots() {
        Run.refused("Promise 14: a slot of A too small", "plain 3", INDEX, "join(-1, 0)",
            "join(MIN, 0)");
        Run.refused("Promise 14: a slot of A too large", "plain 3", INDEX, "join(6, 0)",
            "join(MAX, 0)");
        Run.refused("Promise 14: a slot of B too small", "plain 3", INDEX, "join(0, -1)",
            "join(0, MIN)");
        Run.refused("Promise 14: a slot of B too large", "plain 3", INDEX, "join(0, 6)",
            "join(0, MAX)");
        Run.refused("Promise 14: none of both", "plain 3", INDEX, "join(-1, 6)", "join(6, 6)");
        Run.refused("Promise 14: both are empty", "plain 3", MISSING, "join(4, 5)", "join(5, 5)");
        Run.due("Promise 14: one is empty", "plain 3", "save(0) = false", "join(0, 1)" + MISSING,
            "join(1, 0)" + MISSING, "join(0, 5)" + MISSING, "join(5, 0)" + MISSING,
            "joinAt(0)" + INDEX, "join(0, 0) = 0");
    }

    private static void promise14RefusedDrafts() {
        refusedWithThreeBalls("Promise 14: one is multiplex", "multiplex 3");
        refusedWithThreeBalls("Promise 14: one is synchronous", "sync 4x 2x");
        refusedWithThreeBalls("Promise 14: one is not valid", "plain 4 3 2");
        refusedWithThreeBalls("Promise 14: one is not valid, a throw 0", "plain 5 0 0 7");
        refusedWithThreeBalls("Promise 14: a ball less", "plain 2");
        refusedWithThreeBalls("Promise 14: a ball more", "plain 4");
        refusedWithThreeBalls("Promise 14: no ball", "plain 0");
        refusedWithThreeBalls("Promise 14: nine balls", "plain 9");
        for (String draft : new String[] {"multiplex 3", "sync 4x 2x", "plain 4 3 2"}) {
            Run.due("Promise 14: twice the same that can't be joined", draft, "save(0) = false",
                "join(0, 0)" + ARGUMENT, "joinAt(0)" + INDEX);
        }
    }

    private static void refusedWithThreeBalls(String title, String draft) {
        Run.due(title, "plain 3", "save(0) = false", draft, "save(5) = false",
            "join(0, 5)" + ARGUMENT, "joinAt(0)" + INDEX, "joinThrow(0)" + INDEX, "plain 5 1",
            "save(5) = true", "join(0, 5) = 1", "way = 4");
        Run.due(title + ", A", draft, "save(0) = false", "plain 3", "save(5) = false",
            "join(0, 5)" + ARGUMENT, "joinAt(0)" + INDEX, "joinThrow(0)" + INDEX, "plain 5 1",
            "save(0) = true", "join(0, 5) = 1", "way = 2");
    }

    private static void promise14TheJoinBeforeStays() {
        String[] joined = {"way = 2", "joinAt(0) = 1", "joinAt(1) = 0"};
        Run.due("Promise 14: the join before stays, when it throws", "plain 1 5", "save(0) = false",
            "plain 3", "save(1) = false", "plain 4", "save(2) = false", "multiplex 3",
            "save(3) = false", "plain 4 3 2", "save(4) = false", "join(0, 1) = 1",
            "join(0, 6)" + INDEX, joined[0], joined[1], joined[2],
            "join(-1, 0)" + INDEX, joined[0], joined[1], joined[2],
            "join(0, 5)" + MISSING, joined[0], joined[1], joined[2],
            "join(5, 0)" + MISSING, joined[0], joined[1], joined[2],
            "join(1, 2)" + ARGUMENT, joined[0], joined[1], joined[2],
            "join(3, 1)" + ARGUMENT, joined[0], joined[1], joined[2],
            "join(1, 4)" + ARGUMENT, joined[0], joined[1], joined[2]);
        Run.due("Promise 14: it stays, when its drafts are gone", "plain 1 5", "save(0) = false",
            "plain 3", "save(1) = false", "join(0, 1) = 1", "plain 0", "save(0) = true",
            "save(1) = true", joined[0], joined[1], joined[2]);
        Run.due("Promise 14: no throw of a longer one before is left", "plain 0 0 9",
            "save(0) = false", "plain 3", "save(1) = false", "plain 1 5", "save(2) = false",
            "join(0, 1) = 4", "way = 1 1 2 2", "join(2, 1) = 1", "way = 2", "join(1, 1) = 0",
            "way = ");
    }

    private static void promise14ShortestWays() {
        joined("Promise 14: perhaps 0 throws, a draft with itself", "5 3 1", "5 3 1", "", 0, 0);
        joined("Promise 14: no balls", "0", "0 0 0", "", 0, 0);
        joined("Promise 14: nine balls", "9 9", "9", "", 0, 0);
        joined("Promise 14: one ball", "9 0 0 0 0 0 0 0 0", "1", "", 0, 0);
        joined("Promise 14: two balls", "0 0 0 8", "2", "1 1 1", 3, 0);
        joined("Promise 14: three balls", "0 0 9", "3", "1 1 2 2", 2, 0);
        joined("Promise 14: four balls", "0 8", "0 0 8 8", "1 2 3 6 6", 1, 2);
        joined("Promise 14: five balls", "1 9", "1 1 9 9", "2 3 4 7 7", 1, 2);
        joined("Promise 14: six balls, with throws 9 in B", "6", "0 9 9", "7 7 8 8", 0, 1);
        joined("Promise 14: seven balls", "7", "1 9 9 9", "8 8 8", 0, 1);
        joined("Promise 14: eight balls", "8", "8 8 8 8", "", 0, 0);
        joined("Promise 14: the greatest period", "4" + " 4".repeat(15), "7 1", "5 6", 0, 0);
    }

    private static void promise14LeastSites() {
        joined("Promise 14: A's least site, of several with that state", "3 3 3", "5 1", "4", 0, 0);
        joined("Promise 14: A's last site", "1 5", "3", "2", 1, 0);
        joined("Promise 14: A's first state is B's second one", "5 1 5 1", "1 5", "", 0, 1);
        joined("Promise 14: B's least site, of several with that state", "5 1", "3 3 3", "2", 0, 0);
        joined("Promise 14: B's last site", "3", "1 5", "4", 0, 1);
        joined("Promise 14: B's least site of those that meet A's", "1 5", "1 5 1 5", "", 0, 0);
    }

    private static void promise14FirstWay() {
        joined("Promise 14: 5 6 and 7 4 differ at once", "4", "7 1", "5 6", 0, 0);
        joined("Promise 14: 1 1 1 and 1 2 0 differ later", "0 0 0 8", "2", "1 1 1", 3, 0);
        joined("Promise 14: 7 7 8 8 and 7 7 9 7 differ late", "6", "0 9 9", "7 7 8 8", 0, 1);
        joined("Promise 14: the lower throw, to a higher site of B", "2", "0 1 5", "3", 0, 2);
        joined("Promise 14: A's least site, though a later one has a lower throw", "1 3", "0 0 6",
            "5", 0, 1);
    }

    private static void joined(String title, String a, String b, String way, int atA, int atB) {
        int length = way.isEmpty() ? 0 : way.split(" ").length;
        Run.due(title, "plain " + a, "save(0) = false", "plain " + b, "save(5) = false",
            "join(0, 5) = " + length, "way = " + way, "joinAt(0) = " + atA, "joinAt(1) = " + atB);
        Run.due(title + ", from the last slot to the first", "plain " + a, "save(5) = false",
            "plain " + b, "save(0) = false", "join(5, 0) = " + length, "way = " + way,
            "joinAt(0) = " + atA, "joinAt(1) = " + atB);
    }

    private static void promise15JoinThrow() {
        Run.refused("Promise 15: a throw too small", "plain 3", INDEX, "joinThrow(-1)",
            "joinThrow(MIN)");
        Run.refused("Promise 15: a throw too large", "plain 3", INDEX, "joinThrow(1)",
            "joinThrow(2)", "joinThrow(511)", "joinThrow(512)", "joinThrow(MAX)");
        Run.due("Promise 15: there was no join", "joinThrow(0)" + INDEX, "joinThrow(-1)" + INDEX);
        Run.due("Promise 15: a join without throws", "plain 3", "save(0) = false", "join(0, 0) = 0",
            "joinThrow(0)" + INDEX, "joinThrow(-1)" + INDEX);
        Run.due("Promise 15: the first and the last throw", "plain 0 0 9", "save(0) = false",
            "plain 3", "save(1) = false", "join(0, 1) = 4", "joinThrow(0) = 1", "joinThrow(3) = 2",
            "joinThrow(4)" + INDEX, "joinThrow(-1)" + INDEX, "joinThrow(3) = 2");
    }

    private static void promise16JoinAt() {
        Run.refused("Promise 16: a side too small", "plain 3", INDEX, "joinAt(-1)", "joinAt(MIN)");
        Run.refused("Promise 16: a side too large", "plain 3", INDEX, "joinAt(2)", "joinAt(MAX)");
        Run.due("Promise 16: there was no join", "joinAt(0)" + INDEX, "joinAt(1)" + INDEX,
            "joinAt(2)" + INDEX, "plain 3", "save(0) = false", "join(0, 1)" + MISSING,
            "joinAt(0)" + INDEX, "joinAt(1)" + INDEX);
        Run.due("Promise 16: a join without throws has both sides", "plain 5 1", "save(0) = false",
            "plain 1 5", "save(1) = false", "join(0, 1) = 0", "joinAt(0) = 0", "joinAt(1) = 1",
            "joinAt(2)" + INDEX);
        Run.due("Promise 16: the latest join", "plain 1 5", "save(0) = false", "plain 3",
            "save(1) = false", "join(0, 1) = 1", "joinAt(0) = 1", "joinAt(1) = 0", "join(1, 0) = 1",
            "joinAt(0) = 0", "joinAt(1) = 1");
    }
}
