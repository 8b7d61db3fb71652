import java.util.ArrayList;
import java.util.Collections;
import java.util.List;
import java.util.Random;

/** All promises: the class and the model answer the same long rows of calls. */
public final class ModelTest {
    private static final int RUNS = 1500;
    private static final int CALLS = 512;

    interface Answer {
        long get();
    }

    private final Random random;
    private final SiteswapStudio studio = new SiteswapStudio();
    private final Model model = new Model();
    private final List<String> told = new ArrayList<>();
    private boolean same = true;
    private int period = 1;

    private ModelTest(long seed) {
        random = new Random(seed);
    }

    public static void main(String[] args) {
        for (int seed = 0; seed < RUNS; seed++) {
            ModelTest test = new ModelTest(seed);
            while (test.same && test.told.size() < CALLS) {
                test.step();
            }
            if (!test.same) {
                Check.report("run " + seed + ": " + String.join("; ", test.told));
                break;
            }
        }
        Check.end();
    }

    private void step() {
        switch (random.nextInt(8)) {
            case 0 -> writePlain();
            case 1 -> writeMultiplex();
            case 2 -> writeSynchronous();
            case 3 -> writeAnything();
            case 4 -> changeAndAsk();
            case 5 -> useShelf();
            case 6 -> useFloor();
            default -> wild();
        }
    }

    /** Landings are a permutation of the sites, so that most drafts are valid. */
    private List<Integer> permutation(int size) {
        List<Integer> row = new ArrayList<>();
        for (int k = 0; k < size; k++) {
            row.add(k);
        }
        Collections.shuffle(row, random);
        return row;
    }

    private void begin(int mode, int newPeriod) {
        period = newPeriod;
        call("begin(" + mode + ", " + newPeriod + ")", () -> studio.begin(mode, newPeriod),
            () -> model.begin(mode, newPeriod));
    }

    private void put(int site, int height, boolean cross) {
        call("put(" + site + ", " + height + ", " + cross + ")",
            () -> studio.put(site, height, cross), () -> model.put(site, height, cross));
    }

    private void add(int site, int height) {
        call("add(" + site + ", " + height + ")", () -> studio.add(site, height),
            () -> model.add(site, height));
    }

    /** A height that lands at a residue, as far as 0 .. 9 allows it. */
    private int heightTo(int site, int target, int modulus, int step) {
        int height = Math.floorMod(target - site, modulus);
        while (height + modulus <= 9 && random.nextBoolean()) {
            height += modulus;
        }
        return height <= 9 ? height : random.nextInt(10 / step) * step;
    }

    private void writePlain() {
        begin(0, 1 + random.nextInt(random.nextInt(4) == 0 ? 16 : 6));
        if (period > 8) {
            swapFromConstant();
        } else {
            List<Integer> landings = permutation(period);
            for (int site = 0; site < period; site++) {
                put(site, heightTo(site, landings.get(site), period, 1), false);
            }
        }
        askDraft();
    }

    private void swapFromConstant() {
        int height = random.nextInt(10);
        for (int site = 0; site < period; site++) {
            put(site, height, false);
        }
        for (int k = 0; k < 12; k++) {
            swap(random.nextInt(period), random.nextInt(period));
        }
    }

    private void writeMultiplex() {
        begin(1, 1 + random.nextInt(random.nextInt(4) == 0 ? 16 : 5));
        int layers = 1 + random.nextInt(3);
        for (int layer = 0; layer < layers; layer++) {
            List<Integer> landings = permutation(period);
            boolean constant = period > 7;
            int height = random.nextInt(10);
            for (int site = 0; site < period; site++) {
                int h = constant ? height : heightTo(site, landings.get(site), period, 1);
                if (layer == 0) {
                    put(site, h, false);
                } else {
                    add(site, h);
                }
            }
        }
        askDraft();
    }

    private void writeSynchronous() {
        begin(2, 2 * (1 + random.nextInt(random.nextInt(4) == 0 ? 8 : 3)));
        List<Integer> landings = permutation(period);
        for (int site = 0; site < period; site++) {
            int target = landings.get(site);
            int height = heightTo(site / 2 * 2, target / 2 * 2, period, 2);
            put(site, height, target % 2 != site % 2);
        }
        askDraft();
    }

    private void writeAnything() {
        int mode = random.nextInt(3);
        begin(mode, (1 + random.nextInt(8)) * (mode == 2 ? 2 : 1));
        for (int k = 0; k < period; k++) {
            put(random.nextInt(period), random.nextInt(10), random.nextInt(mode == 2 ? 2 : 9) == 0);
            if (random.nextBoolean()) {
                add(random.nextInt(period), random.nextInt(10));
            }
        }
        askDraft();
    }

    private void swap(int i, int j) {
        call("swap(" + i + ", " + j + ")", () -> studio.swap(i, j) ? 1 : 0,
            () -> model.swap(i, j) ? 1 : 0);
    }

    private void askDraft() {
        call("valid()", () -> studio.valid() ? 1 : 0, () -> model.valid() ? 1 : 0);
        call("clash()", () -> studio.clash(), () -> model.clash());
        call("balls()", () -> studio.balls(), () -> model.balls());
        int site = random.nextInt(period + 1);
        call("state(" + site + ")", () -> studio.state(site), () -> model.state(site));
        height(random.nextInt(period), random.nextInt(3));
        if (random.nextBoolean()) {
            call("show()", () -> studio.show(), () -> model.show());
        }
        if (random.nextBoolean()) {
            save(random.nextInt(6));
        }
    }

    private void height(int site, int which) {
        call("height(" + site + ", " + which + ")", () -> studio.height(site, which),
            () -> model.height(site, which));
    }

    private void save(int slot) {
        call("save(" + slot + ")", () -> studio.save(slot) ? 1 : 0, () -> model.save(slot) ? 1 : 0);
    }

    private void changeAndAsk() {
        swap(random.nextInt(period), random.nextInt(period));
        call("canonical()", () -> studio.canonical(), () -> model.canonical());
        for (int site = 0; site < period; site++) {
            height(site, 0);
        }
        askDraft();
    }

    private void useShelf() {
        int slot = random.nextInt(6);
        call("load(" + slot + ")", () -> studio.load(slot), () -> model.load(slot));
        for (int a = 0; a < 6; a++) {
            int from = a;
            int to = random.nextInt(6);
            call("join(" + from + ", " + to + ")", () -> studio.join(from, to),
                () -> model.join(from, to));
            askJoin();
        }
    }

    private void askJoin() {
        for (int k = 0; k < 4; k++) {
            joinThrow(k);
        }
        joinThrow(random.nextInt(12));
        joinAt(0);
        joinAt(1);
    }

    private void joinThrow(int k) {
        call("joinThrow(" + k + ")", () -> studio.joinThrow(k), () -> model.joinThrow(k));
    }

    private void joinAt(int side) {
        call("joinAt(" + side + ")", () -> studio.joinAt(side), () -> model.joinAt(side));
    }

    private void useFloor() {
        for (int what = 0; what < 5; what++) {
            floor(what);
        }
        for (int k = 0; k < 3; k++) {
            run(random.nextInt(4) == 0 ? 1 + random.nextInt(100) : 1 + random.nextInt(5));
            call("highest()", () -> studio.highest(), () -> model.highest());
            askBall(random.nextInt(6));
            askBall(random.nextInt(28));
        }
        floor(1);
        floor(2);
    }

    private void run(int beats) {
        call("run(" + beats + ")", () -> studio.run(beats), () -> model.run(beats));
    }

    private void floor(int what) {
        call("floor(" + what + ")", () -> studio.floor(what), () -> model.floor(what));
    }

    private void askBall(int b) {
        call("ball(" + b + ")", () -> studio.ball(b), () -> model.ball(b));
        call("hand(" + b + ")", () -> studio.hand(b), () -> model.hand(b));
    }

    private int wildNumber() {
        int[] edges = {Integer.MIN_VALUE, Integer.MAX_VALUE, -1, 0, 1, 2, 3, 5, 6, 9, 10, 16, 17,
            27, 48, 100, 101, 512};
        return random.nextInt(3) == 0 ? random.nextInt() : edges[random.nextInt(edges.length)];
    }

    /** Arguments of any kind; begin is left out so that the period here stays known. */
    private void wild() {
        put(wildNumber(), wildNumber(), random.nextBoolean());
        add(wildNumber(), wildNumber());
        swap(wildNumber(), wildNumber());
        height(wildNumber(), wildNumber());
        int slot = wildNumber();
        save(slot);
        int a = wildNumber();
        int b = wildNumber();
        call("join(" + a + ", " + b + ")", () -> studio.join(a, b), () -> model.join(a, b));
        joinThrow(wildNumber());
        joinAt(wildNumber());
        run(wildNumber());
        floor(wildNumber());
        askBall(wildNumber());
    }

    private void call(String name, Answer ofStudio, Answer ofModel) {
        if (!same || told.size() >= CALLS) {
            return;
        }
        String got = answer(ofStudio);
        String want = answer(ofModel);
        told.add(name + " = " + got);
        if (!got.equals(want)) {
            same = false;
            told.add("due is " + want);
        }
        if (name.startsWith("load") && !got.startsWith("java")) {
            period = Integer.parseInt(got);
        }
    }

    private static String answer(Answer call) {
        try {
            return Long.toString(call.get());
        } catch (RuntimeException e) {
            return e.getClass().getName();
        }
    }
}
