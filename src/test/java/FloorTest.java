/** Promises 19 to 24: show, run, ball, hand, highest and floor. */
public final class FloorTest {
    private static final Class<IllegalArgumentException> ARGUMENT = IllegalArgumentException.class;
    private static final Class<IllegalStateException> STATE = IllegalStateException.class;
    private static final Class<IndexOutOfBoundsException> INDEX = IndexOutOfBoundsException.class;

    public static void main(String[] args) {
        nothingShown();
        noBalls();
        plain();
        oddPeriod();
        multiplexOrder();
        synchronous();
        shownAsItWas();
        shownAgain();
        wrongInputs();
        longRun();
        Check.end();
    }

    private static void nothingShown() {
        SiteswapStudio x = Patterns.plain(new SiteswapStudio(), "321");
        Check.fails("show of a draft that is not valid", STATE, () -> x.show());
        Check.fails("run", STATE, () -> x.run(1));
        Check.fails("the beats are asked before the floor", ARGUMENT, () -> x.run(0));
        for (int what = 0; what <= 4; what++) {
            int w = what;
            Check.fails("floor(" + w + ")", STATE, () -> x.floor(w));
        }
        Check.fails("the what is asked before the floor", INDEX, () -> x.floor(5));
        Check.fails("ball(0)", INDEX, () -> x.ball(0));
        Check.fails("hand(0)", INDEX, () -> x.hand(0));
        Check.due("highest", x.highest(), -1);
    }

    private static void noBalls() {
        SiteswapStudio x = Patterns.plain(new SiteswapStudio(), "000");
        Check.due("show", x.show(), 0);
        Check.due("run", x.run(7), 0);
        Check.due("now", x.floor(0), 7);
        Check.due("balls", x.floor(3), 0);
        Check.due("highest", x.highest(), -1);
        Check.fails("ball(0)", INDEX, () -> x.ball(0));
    }

    private static void plain() {
        SiteswapStudio x = Patterns.plain(new SiteswapStudio(), "51");
        Check.due("show", x.show(), 3);
        landings("51 shown", x, 0, 1, 3);
        hands("51 shown", x, 0, 1, 1);
        Check.due("run a beat", x.run(1), 1);
        landings("51 after a beat", x, 4, 0, 2);
        Check.due("the highest", x.highest(), 0);
        Check.due("run a beat", x.run(1), 1);
        landings("51 after two beats", x, 3, 0, 1);
        hands("51 after two beats", x, 1, 0, 1);
        Check.due("left", x.floor(1), 1);
        Check.due("right", x.floor(2), 1);
        Patterns.plain(x, "40").show();
        Check.due("a hand that rests throws nothing", x.run(100), 50);
        Check.due("left", x.floor(1), 50);
        Check.due("right", x.floor(2), 0);
    }

    private static void oddPeriod() {
        SiteswapStudio x = Patterns.plain(new SiteswapStudio(), "300");
        x.show();
        Check.due("run", x.run(9), 3);
        Check.due("sites change hands: left", x.floor(1), 2);
        Check.due("sites change hands: right", x.floor(2), 1);
        Check.due("its hand", x.hand(0), 1);
        Check.due("its beat", x.ball(0), 0);
    }

    private static void multiplexOrder() {
        SiteswapStudio x = Patterns.multiplex(new SiteswapStudio(), "13");
        Check.due("show", x.show(), 4);
        landings("[13] shown", x, 0, 0, 1, 2);
        Check.due("run", x.run(1), 2);
        landings("[13]: ball 0 by the first throw", x, 0, 2, 0, 1);
        Check.due("run", x.run(1), 2);
        landings("[13]: ball 0 again before ball 2", x, 0, 1, 2, 0);
        hands("[13] after two beats", x, 0, 1, 0, 0);
        Check.due("the highest", x.highest(), 2);

        Patterns.multiplex(x, "031").show();
        x.run(1);
        landings("[031]: a throw 0 takes no ball", x, 2, 0, 0, 1);
        Check.due("the mode", x.floor(4), 1);
        Patterns.multiplex(x, "301").show();
        x.run(2);
        landings("[301]", x, 1, 2, 0, 0);
        Check.due("the highest", x.highest(), 1);
        Patterns.multiplex(x, "999").show();
        Check.due("of several the lowest number", x.highest(), 24);
    }

    private static void synchronous() {
        SiteswapStudio x = Patterns.synchronous(new SiteswapStudio(), "4x", "2x");
        Check.due("show", x.show(), 3);
        landings("(4x,2x) shown", x, 0, 0, 2);
        hands("(4x,2x) shown", x, 0, 1, 1);
        Check.due("two at a beat", x.run(1), 2);
        landings("(4x,2x) after a beat", x, 3, 1, 1);
        hands("(4x,2x) after a beat", x, 1, 0, 1);
        Check.due("none at an odd beat", x.run(1), 0);
        Check.due("the mode", x.floor(4), 2);
        Check.due("left", x.floor(1), 1);
        Patterns.synchronous(x, "0x", "8").show();
        Check.due("one hand alone", x.run(8), 4);
        Check.due("left", x.floor(1), 0);
        Check.due("right", x.floor(2), 4);
        hands("(0x,8)", x, 1, 1, 1, 1);
    }

    private static void shownAsItWas() {
        SiteswapStudio x = Patterns.plain(new SiteswapStudio(), "51");
        x.show();
        x.put(0, 3, false);
        x.put(1, 3, false);
        x.run(1);
        Check.due("the floor keeps the draft that was shown", x.ball(0), 4);
        Patterns.multiplex(x, "1", "23");
        x.save(0);
        Patterns.plain(x, "321");
        Check.fails("show", STATE, () -> x.show());
        Check.due("the floor stays when show throws", x.floor(0), 1);
        Check.due("its balls", x.floor(3), 3);
        x.load(0);
        Check.due("its mode", x.floor(4), 0);
        Check.due("it goes on", x.run(1), 1);
    }

    private static void shownAgain() {
        SiteswapStudio x = Patterns.plain(new SiteswapStudio(), "5");
        x.show();
        x.run(13);
        Patterns.plain(x, "3");
        Check.due("show again", x.show(), 3);
        Check.due("now", x.floor(0), 0);
        Check.due("left", x.floor(1), 0);
        Check.due("right", x.floor(2), 0);
        Check.due("balls", x.floor(3), 3);
        Check.fails("a ball of the first", INDEX, () -> x.ball(3));
        Check.fails("its hand", INDEX, () -> x.hand(3));
        Check.due("highest", x.highest(), 2);
    }

    private static void wrongInputs() {
        SiteswapStudio x = Patterns.plain(new SiteswapStudio(), "3");
        x.show();
        for (int beats : new int[] {0, -1, 101, Integer.MIN_VALUE, Integer.MAX_VALUE}) {
            Check.fails("run(" + beats + ")", ARGUMENT, () -> x.run(beats));
        }
        for (int what : new int[] {-1, 5, Integer.MIN_VALUE, Integer.MAX_VALUE}) {
            Check.fails("floor(" + what + ")", INDEX, () -> x.floor(what));
        }
        for (int b : new int[] {-1, 3, 27, Integer.MIN_VALUE, Integer.MAX_VALUE}) {
            Check.fails("ball(" + b + ")", INDEX, () -> x.ball(b));
            Check.fails("hand(" + b + ")", INDEX, () -> x.hand(b));
        }
        Check.due("now", x.floor(0), 0);
    }

    private static void longRun() {
        SiteswapStudio x = Patterns.multiplex(new SiteswapStudio(), "999");
        x.show();
        for (int k = 0; k < 500; k++) {
            Check.due("run(100)", x.run(100), 300);
        }
        Check.due("now", x.floor(0), 50000);
        Check.due("left", x.floor(1), 75000);
        Check.due("right", x.floor(2), 75000);
    }

    private static void landings(String when, SiteswapStudio x, int... due) {
        for (int b = 0; b < due.length; b++) {
            Check.due(when + ": ball " + b, x.ball(b), due[b]);
        }
    }

    private static void hands(String when, SiteswapStudio x, int... due) {
        for (int b = 0; b < due.length; b++) {
            Check.due(when + ": hand of " + b, x.hand(b), due[b]);
        }
    }
}
