import java.util.ArrayList;
import java.util.List;

/** The boundary cases of promises 19 to 24, a run for each sentence that names one. */
public final class BoundaryFloorTest {
    private static final String ARGUMENT = " throws IllegalArgumentException";
    private static final String STATE = " throws IllegalStateException";
    private static final String INDEX = " throws IndexOutOfBoundsException";

    public static void main(String[] args) {
        promise19RefusedShow();
        promise19Show();
        promise19NumbersOfBalls();
        promise20RefusedRun();
        promise20Run();
        promise20MultiplexThrows();
        promise21Ball();
        promise22Hand();
        promise23Highest();
        promise24RefusedFloor();
        promise24Floor();
        lastOf512Calls();
        Check.end();
    }

    private static void promise19RefusedShow() {
        Run.refused("Promise 19: not valid, mode 0", "plain 3 2 1", STATE, "show()");
        Run.refused("Promise 19: not valid, a throw 0", "plain 1 0", STATE, "show()");
        Run.refused("Promise 19: not valid, mode 1", "multiplex 3 2 1", STATE, "show()");
        Run.refused("Promise 19: not valid, mode 2", "sync 4x 4", STATE, "show()");
        Run.due("Promise 19: nothing is shown, when it is refused", "plain 3 2 1", "show()" + STATE,
            "floor(0)" + STATE, "run(1)" + STATE, "ball(0)" + INDEX, "highest() = -1",
            "put(1, 3, false) = 2", "put(2, 3, false) = 1", "show() = 3", "floor(0) = 0");
        Run.due("Promise 19: the floor goes on, when it is refused", "plain 5 1", "show() = 3",
            "run(1) = 1", "put(0, 4, false) = 5", "show()" + STATE, "floor(0) = 1",
            "landings = 4 0 2", "run(1) = 1", "landings = 3 0 1");
    }

    private static void promise19Show() {
        Run.due("Promise 19: a new object's draft, without balls", "show() = 0", "floor(0) = 0",
            "floor(3) = 0", "floor(4) = 0", "landings = ", "run(100) = 0");
        Run.due("Promise 19: the most balls, mode 0", "plain" + " 9".repeat(16), "show() = 9",
            "landings = 0 1 2 3 4 5 6 7 8", "ball(9)" + INDEX);
        Run.due("Promise 19: the most balls, mode 1", "multiplex 999", "show() = 27",
            "ball(26) = 8", "ball(27)" + INDEX);
        Run.due("Promise 19: a site of three throws beside one of one", "multiplex 222 2",
            "show() = 4", "landings = 0 0 0 1", "run(1) = 3", "landings = 1 1 1 0");
        Run.due("Promise 19: the most balls, mode 2", "sync 8x 8x", "show() = 8",
            "landings = 0 0 2 2 4 4 6 6", "hands = 0 1 0 1 0 1 0 1");
        Run.due("Promise 19: at beat 0 again, with fewer balls", "plain 5", "show() = 5",
            "run(13) = 13", "plain 3", "show() = 3", "floor(0) = 0", "floor(1) = 0", "floor(2) = 0",
            "floor(3) = 3", "landings = 0 1 2", "ball(3)" + INDEX, "hand(3)" + INDEX);
        Run.due("Promise 19: at beat 0 again, without balls", "plain 5", "show() = 5", "run(1) = 1",
            "plain 0", "show() = 0", "landings = ", "highest() = -1", "floor(3) = 0");
        Run.due("Promise 19: the draft as it was", "plain 5 1", "show() = 3",
            "put(0, 3, false) = 5", "put(1, 3, false) = 1", "run(1) = 1", "landings = 4 0 2",
            "begin(2, 2) = 2", "floor(4) = 0", "run(2) = 2", "floor(3) = 3");
    }

    private static void promise19NumbersOfBalls() {
        Run.due("Promise 19: by the beat at which they land first", "plain 5 1", "show() = 3",
            "landings = 0 1 3", "hands = 0 1 1");
        Run.due("Promise 19: thrown in rounds before the last one", "plain 9", "show() = 9",
            "landings = 0 1 2 3 4 5 6 7 8");
        Run.due("Promise 19: of one beat, left hand first", "sync 4x 2x", "show() = 3",
            "landings = 0 0 2", "hands = 0 1 1", "sync 2x 4x", "show() = 3", "landings = 0 0 2",
            "hands = 0 1 0");
        // Which of two balls has which number is only seen when the throws part them.
        Run.due("Promise 19: of one beat and hand, the lower number by the first throw",
            "multiplex 13", "show() = 4", "landings = 0 0 1 2", "run(1) = 2", "landings = 0 2 0 1");
        Run.due("Promise 19: no ball that lands before beat 0", "plain 0 1 2", "show() = 1",
            "landings = 1", "hands = 1");
    }

    private static void promise20RefusedRun() {
        Run.refused("Promise 20: too few beats", "plain 3", ARGUMENT, "run(0)", "run(-1)",
            "run(MIN)");
        Run.refused("Promise 20: too many beats", "plain 3", ARGUMENT, "run(101)", "run(102)",
            "run(MAX)");
        Run.due("Promise 20: nothing was shown", "plain 3", "run(1)" + STATE, "run(100)" + STATE,
            "show() = 3", "floor(0) = 0", "run(1) = 1");
        Run.due("Promise 20: the floor stays, when it is refused", "plain 5 1", "show() = 3",
            "run(3) = 3", "run(0)" + ARGUMENT, "run(101)" + ARGUMENT, "floor(0) = 3",
            "floor(1) = 2", "floor(2) = 1", "landings = 2 4 0", "run(1) = 1", "floor(0) = 4");
    }

    private static void promise20Run() {
        Run.due("Promise 20: 1 beat", "plain 3", "show() = 3", "run(1) = 1", "floor(0) = 1",
            "landings = 2 0 1");
        Run.due("Promise 20: 100 beats", "plain 3", "show() = 3", "run(100) = 100",
            "floor(0) = 100", "floor(1) = 50", "floor(2) = 50", "landings = 2 0 1");
        Run.due("Promise 20: no balls", "plain 0 0", "show() = 0", "run(1) = 0", "run(100) = 0",
            "floor(0) = 101", "floor(1) = 0", "floor(2) = 0");
        Run.due("Promise 20: a throw 0 throws no ball", "plain 2 0", "show() = 1", "run(1) = 1",
            "run(1) = 0", "run(100) = 50");
        Run.due("Promise 20: sites come again, odd periods in the other hand", "plain 3 0 0",
            "show() = 1", "run(3) = 1", "hands = 1", "run(1) = 1", "floor(1) = 1", "floor(2) = 1",
            "run(100) = 33");
        Run.due("Promise 20: none at the odd beats of mode 2", "sync 4 4", "show() = 4",
            "run(1) = 2", "run(1) = 0", "run(1) = 2", "run(97) = 96", "floor(0) = 100",
            "floor(1) = 50", "floor(2) = 50");
        Run.due("Promise 20: a hand of mode 2 that rests", "sync 0 4", "show() = 2",
            "run(100) = 50", "floor(1) = 0", "floor(2) = 50", "hands = 1 1");
        Run.due("Promise 20: the most at a beat", "multiplex 999", "show() = 27", "run(1) = 3",
            "run(100) = 300", "floor(1) = 153", "floor(2) = 150");
    }

    private static void promise20MultiplexThrows() {
        Run.due("Promise 20: by their numbers, from the first throw on", "multiplex 13",
            "show() = 4", "run(1) = 2", "landings = 0 2 0 1", "run(1) = 2", "landings = 0 1 2 0",
            "hands = 0 1 0 0");
        Run.due("Promise 20: a throw 0 before and between takes no ball", "multiplex 031",
            "show() = 4", "run(1) = 2", "landings = 2 0 0 1", "multiplex 301", "show() = 4",
            "run(1) = 2", "landings = 2 0 0 1");
        Run.due("Promise 20: three throws of three heights", "multiplex 321", "show() = 6",
            "landings = 0 0 0 1 1 2", "run(1) = 3", "landings = 2 1 0 0 0 1");
    }

    private static void promise21Ball() {
        Run.refused("Promise 21: a ball too small", "plain 3", INDEX, "ball(-1)", "ball(MIN)");
        Run.refused("Promise 21: a ball too large", "plain 3", INDEX, "ball(3)", "ball(27)",
            "ball(MAX)");
        Run.due("Promise 21: nothing was shown", "plain 3", "ball(0)" + INDEX, "show() = 3",
            "ball(0) = 0");
        Run.due("Promise 21: a floor without balls", "show() = 0", "ball(0)" + INDEX,
            "run(1) = 0", "ball(0)" + INDEX);
        Run.due("Promise 21: the first and the last ball", "plain 9", "show() = 9", "ball(0) = 0",
            "ball(8) = 8", "ball(9)" + INDEX, "run(1) = 1", "ball(0) = 8", "ball(1) = 0");
        Run.due("Promise 21: 0 at this very beat, and again each time", "plain 1", "show() = 1",
            "ball(0) = 0", "run(1) = 1", "ball(0) = 0", "run(100) = 100", "ball(0) = 0");
        Run.due("Promise 21: balls of the floor, not of the draft", "plain 3", "show() = 3",
            "plain 9", "ball(3)" + INDEX, "ball(2) = 2");
    }

    private static void promise22Hand() {
        Run.refused("Promise 22: a ball too small", "plain 3", INDEX, "hand(-1)", "hand(MIN)");
        Run.refused("Promise 22: a ball too large", "plain 3", INDEX, "hand(3)", "hand(27)",
            "hand(MAX)");
        Run.due("Promise 22: nothing was shown", "plain 3", "hand(0)" + INDEX, "show() = 3",
            "hand(0) = 0");
        Run.due("Promise 22: a floor without balls", "show() = 0", "hand(0)" + INDEX);
        Run.due("Promise 22: left at even beats", "plain 9", "show() = 9",
            "hands = 0 1 0 1 0 1 0 1 0", "run(1) = 1", "hands = 1 1 0 1 0 1 0 1 0");
        Run.due("Promise 22: left at even beats, mode 1", "multiplex 33", "show() = 6",
            "hands = 0 0 1 1 0 0", "run(1) = 2", "hands = 1 1 1 1 0 0");
        Run.due("Promise 22: the same hand in mode 2, or the other one", "sync 4 4", "show() = 4",
            "hands = 0 1 0 1", "run(1) = 2", "hands = 0 1 0 1", "sync 4x 2x", "show() = 3",
            "run(1) = 2", "hands = 1 0 1", "landings = 3 1 1");
    }

    private static void promise23Highest() {
        Run.due("Promise 23: NONE, when nothing was shown", "plain 3", "highest() = -1",
            "show() = 3", "highest() = 2");
        Run.due("Promise 23: NONE, when no balls were shown", "show() = 0", "highest() = -1",
            "run(1) = 0", "highest() = -1");
        Run.due("Promise 23: one ball alone", "plain 1", "show() = 1", "highest() = 0",
            "run(1) = 1", "highest() = 0");
        Run.due("Promise 23: the last one, then the first one", "plain 9", "show() = 9",
            "highest() = 8", "run(1) = 1", "highest() = 0", "run(8) = 8", "highest() = 8");
        Run.due("Promise 23: of several the lowest number", "multiplex 999", "show() = 27",
            "highest() = 24", "run(1) = 3", "highest() = 0", "sync 4 4", "show() = 4",
            "highest() = 2", "run(1) = 2", "highest() = 0");
    }

    private static void promise24RefusedFloor() {
        Run.refused("Promise 24: a what too small", "plain 3", INDEX, "floor(-1)", "floor(MIN)");
        Run.refused("Promise 24: a what too large", "plain 3", INDEX, "floor(5)", "floor(6)",
            "floor(MAX)");
        Run.due("Promise 24: nothing was shown", "plain 3", "floor(0)" + STATE, "floor(1)" + STATE,
            "floor(2)" + STATE, "floor(3)" + STATE, "floor(4)" + STATE, "show() = 3",
            "floor(0) = 0", "floor(3) = 3");
    }

    private static void promise24Floor() {
        Run.due("Promise 24: nothing is thrown at first", "plain 5 1", "show() = 3", "floor(0) = 0",
            "floor(1) = 0", "floor(2) = 0", "floor(3) = 3", "floor(4) = 0");
        Run.due("Promise 24: throws above 0 alone", "plain 4 0", "show() = 2", "run(100) = 50",
            "floor(0) = 100", "floor(1) = 50", "floor(2) = 0", "plain 0 4", "show() = 2",
            "run(99) = 49", "floor(0) = 99", "floor(1) = 0", "floor(2) = 49");
        Run.due("Promise 24: throws 0 of a multiplex site", "multiplex 200 0", "show() = 1",
            "run(4) = 2", "floor(1) = 2", "floor(2) = 0", "floor(4) = 1");
        Run.due("Promise 24: each mode", "plain 0", "show() = 0", "floor(4) = 0", "multiplex 0",
            "floor(4) = 0", "show() = 0", "floor(4) = 1", "sync 0 0", "show() = 0", "floor(4) = 2");
    }

    /** What is a promise for at most 512 calls must hold up to the last one. */
    private static void lastOf512Calls() {
        SiteswapStudio x = new SiteswapStudio();
        List<Integer> thrown = new ArrayList<>();
        x.begin(1, 1);
        x.put(0, 9, false);
        x.add(0, 9);
        x.add(0, 9);
        x.show();
        for (int call = 6; call < 512; call++) {
            thrown.add(x.run(100));
        }
        Check.due("Promise 20: the longest run", thrown.stream().distinct().count(), 1);
        Check.due("Promise 24: the last of 512 calls", x.floor(0), 50600);
    }
}
