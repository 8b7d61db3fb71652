import java.util.ArrayList;
import java.util.List;

/** The boundary cases of promises 12 and 13, a run for each sentence that names one. */
public final class BoundaryShelfTest {
    private static final String INDEX = " throws IndexOutOfBoundsException";
    private static final String MISSING = " throws NoSuchElementException";
    private static final String[] DRAFTS = {"plain 5 1", "plain 3 2 1", "multiplex 1 234",
        "sync 6x 4 4 2x"};

    public static void main(String[] args) {
        promise12RefusedSave();
        promise12Save();
        promise13RefusedLoad();
        promise13Load();
        Check.end();
    }

    private static void promise12RefusedSave() {
        for (String draft : DRAFTS) {
            Run.refused("Promise 12: a slot too small", draft, INDEX, "save(-1)", "save(MIN)");
            Run.refused("Promise 12: a slot too large", draft, INDEX, "save(6)", "save(7)",
                "save(MAX)");
        }
        Run.due("Promise 12: nothing is kept, when it is refused", "plain 5 1", "save(6)" + INDEX,
            "save(-1)" + INDEX, "load(0)" + MISSING, "load(5)" + MISSING, "save(0) = false",
            "save(5) = false");
    }

    private static void promise12Save() {
        List<String> rows = new ArrayList<>();
        for (int slot = 0; slot <= 5; slot++) {
            rows.add("plain " + slot);
            rows.add("save(" + slot + ") = false");
            rows.add("save(" + slot + ") = true");
        }
        for (int slot = 0; slot <= 5; slot++) {
            rows.add("load(" + slot + ") = 1");
            rows.add("draft = " + slot);
        }
        Run.due("Promise 12: each slot, from the first to the last", rows.toArray(new String[0]));
        Run.due("Promise 12: a full shelf", "plain 3", "save(0) = false", "save(1) = false",
            "save(2) = false", "save(3) = false", "save(4) = false", "save(5) = false",
            "save(6)" + INDEX, "plain 5 1", "save(5) = true", "save(0) = true", "load(4) = 1",
            "draft = 3", "load(5) = 2", "draft = 5 1");
        Run.due("Promise 12: a copy, which later changes leave alone", "plain 5 1",
            "save(0) = false", "put(0, 3, false) = 5", "begin(1, 16) = 2", "load(0) = 2",
            "draft = 5 1");
        Run.due("Promise 12: saving leaves the draft alone", "sync 6x 4 4 2x", "save(3) = false",
            "draft = 6x 4 4 2x", "balls() = 4");
        Run.due("Promise 12: the smallest over the largest", "multiplex" + " 999".repeat(16),
            "save(1) = false", "plain 4", "save(1) = true", "begin(0, 16) = 1", "load(1) = 1",
            "draft = 4", "height(0, 1)" + INDEX, "height(1, 0)" + INDEX);
    }

    private static void promise13RefusedLoad() {
        for (String draft : DRAFTS) {
            Run.refused("Promise 13: a slot too small", draft, INDEX, "load(-1)", "load(MIN)");
            Run.refused("Promise 13: a slot too large", draft, INDEX, "load(6)", "load(7)",
                "load(MAX)");
            Run.refused("Promise 13: an empty slot", draft, MISSING, "load(4)", "load(5)");
        }
        for (int slot = 0; slot <= 5; slot++) {
            Run.due("Promise 13: no slot but the one that was saved", "plain 5 1",
                "save(" + slot + ") = false", "load(" + (slot + 1) % 6 + ")" + MISSING,
                "load(" + (slot + 5) % 6 + ")" + MISSING, "load(" + slot + ") = 2", "draft = 5 1");
        }
        Run.due("Promise 13: the draft stays, when it is refused", "multiplex 1 234",
            "load(0)" + MISSING, "load(6)" + INDEX, "draft = 1 234", "add(0, 5) = 2",
            "begin(0, 1) = 2");
    }

    private static void promise13Load() {
        Run.due("Promise 13: the least and the greatest period", "begin(0, 16) = 1",
            "save(0) = false", "begin(0, 1) = 16", "save(5) = false", "load(0) = 16",
            "draft =" + " 0".repeat(16), "load(5) = 1", "draft = 0", "height(1, 0)" + INDEX);
        Run.due("Promise 13: a copy, which changes of the draft leave alone", "plain 5 1",
            "save(0) = false", "load(0) = 2", "put(0, 3, false) = 5", "load(0) = 2", "draft = 5 1",
            "swap(0, 1) = true", "draft = 2 4", "load(0) = 2", "draft = 5 1");
        Run.due("Promise 13: three throws, and none more", "multiplex 123 4", "save(2) = false",
            "plain 3", "load(2) = 2", "draft = 123 4",
            "add(0, 1) throws IllegalStateException", "add(1, 1) = 2", "load(2) = 2",
            "draft = 123 4");
        Run.due("Promise 13: the crossing and the mode", "sync 6x 4 4 2x", "save(5) = false",
            "plain 3", "load(5) = 4", "draft = 6x 4 4 2x", "valid() = true",
            "put(0, 1, false) throws IllegalArgumentException", "plain 3 3 3 3", "draft = 3 3 3 3");
        Run.due("Promise 13: a draft that is not valid", "plain 3 2 1", "save(0) = false",
            "plain 3", "load(0) = 3", "clash() = 1", "balls() throws IllegalStateException");
        Run.due("Promise 13: the join and the floor stay", "plain 1 5", "save(0) = false",
            "plain 3", "save(1) = false", "join(0, 1) = 1", "show() = 3", "run(1) = 1",
            "load(0) = 2", "way = 2", "joinAt(0) = 1", "floor(0) = 1", "landings = 2 0 1");
    }
}
