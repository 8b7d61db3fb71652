import java.lang.reflect.InvocationTargetException;
import java.lang.reflect.Method;
import java.util.ArrayList;
import java.util.List;

/**
 * A run of calls on a new object, written as rows of text with the answers that are due.
 *
 * <p>A row is a call with its answer ("put(0, 5, false) = 0"), a refused call with its exception
 * ("put(0, 10, false) throws IllegalArgumentException"), a draft that is written by begin, put and
 * add ("plain 5 3 1", "multiplex 4 43 1", "sync 6x 4 4 2x"), or a reading of several calls
 * ("draft = 5 3 1", "states", "way", "landings", "hands"). MIN and MAX stand for the least and the
 * greatest int.
 *
 * <p>Behind its rows each run asks all that can be asked, and compares the answers with those of
 * the model. The model is not told of refused calls: so later answers are those of an object on
 * which they were never made.
 */
final class Run {
    private static final int MOST_CALLS = 512;
    private static final int LONGEST_READING = 64;
    private static final String NO_INDEX = "throws IndexOutOfBoundsException";

    /** A shelf, a join and a floor that are all in use. */
    private static final String[] BUSY = {
        "plain 1 5", "save(0)", "plain 3", "save(1)", "plain 3 2 1", "save(2)", "multiplex 33 0",
        "save(3)", "join(0, 1)", "sync 4x 2x", "show()", "run(3)"};

    private static final String[] LATER = {
        "draft", "add(-1, 0)", "swap(-1, -1)", "valid()", "clash()", "balls()", "states",
        "way", "joinAt(0)", "joinAt(1)", "landings", "hands", "highest()",
        "floor(0)", "floor(1)", "floor(2)", "floor(3)", "floor(4)",
        "run(1)", "landings", "run(7)", "hands", "highest()", "floor(0)", "floor(1)", "floor(2)",
        "put(0, 2, false)", "add(0, 2)", "swap(0, 0)", "canonical()", "draft", "show()", "floor(0)",
        "load(0)", "draft", "load(1)", "draft", "load(2)", "draft", "load(3)", "draft", "load(4)",
        "load(5)", "join(0, 1)", "join(1, 0)", "way", "joinAt(0)", "joinAt(1)", "countValid(2, 3)",
        "cycle(2, 5)", "save(5)", "save(5)", "begin(0, 1)"};

    private final String title;
    private final SiteswapStudio studio = new SiteswapStudio();
    private final Model model = new Model();
    private int calls = 0;

    private Run(String title) {
        this.title = title;
    }

    static void due(String title, String... rows) {
        Run run = new Run(title);
        run.makeAll(rows);
        run.makeAll(LATER);
        if (run.calls > MOST_CALLS) {
            Check.report(title + ": more than " + MOST_CALLS + " calls of one object");
        }
    }

    /** Each call is refused, with this very exception, behind the draft alone and on a busy one. */
    static void refused(String title, String draft, String exception, String... refusedCalls) {
        for (String call : refusedCalls) {
            due(title, draft, call + exception);
            List<String> rows = new ArrayList<>(List.of(BUSY));
            rows.add(draft);
            rows.add(call + exception);
            due(title + " (in use)", rows.toArray(new String[0]));
        }
    }

    private void makeAll(String[] rows) {
        for (String row : rows) {
            make(row);
        }
    }

    private void make(String row) {
        int answer = row.indexOf(" = ");
        int refusal = row.indexOf(" throws ");
        if (refusal >= 0) {
            compare(row, ask(studio, row.substring(0, refusal)), row.substring(refusal + 1));
            return;
        }
        String question = answer < 0 ? row : row.substring(0, answer);
        String ofModel = ask(model, question);
        String want = answer < 0 ? ofModel : row.substring(answer + 3);
        compare(row, ask(studio, question), want);
        if (!ofModel.equals(want)) {
            Check.report(title + ": " + row + ", but the model answers " + ofModel);
        }
    }

    private void compare(String row, String got, String want) {
        if (!got.equals(want)) {
            Check.report(title + ": " + row + ": answered " + got + ", due is " + want);
        }
    }

    private String ask(Object asked, String question) {
        String[] words = question.split(" ");
        return switch (words[0]) {
            case "plain" -> write(asked, 0, words);
            case "multiplex" -> write(asked, 1, words);
            case "sync" -> write(asked, 2, words);
            case "draft" -> readDraft(asked);
            case "states" -> readRow(asked, "state");
            case "way" -> readRow(asked, "joinThrow");
            case "landings" -> readRow(asked, "ball");
            case "hands" -> readRow(asked, "hand");
            default -> callWritten(asked, question);
        };
    }

    private String write(Object asked, int mode, String[] words) {
        StringBuilder answers = new StringBuilder(call(asked, "begin", mode, words.length - 1));
        for (int site = 0; site < words.length - 1; site++) {
            String heights = words[site + 1].replace("x", "");
            boolean cross = words[site + 1].endsWith("x");
            answers.append(' ').append(call(asked, "put", site, heights.charAt(0) - '0', cross));
            for (int which = 1; which < heights.length(); which++) {
                answers.append(' ').append(call(asked, "add", site, heights.charAt(which) - '0'));
            }
        }
        return answers.toString();
    }

    private String readDraft(Object asked) {
        List<String> sites = new ArrayList<>();
        for (int site = 0; site < LONGEST_READING; site++) {
            StringBuilder heights = new StringBuilder();
            String height = call(asked, "height", site, 0);
            for (int which = 1; !height.startsWith("throws") && which < 5; which++) {
                int told = Integer.parseInt(height);
                heights.append(told < 16 ? height : told - 16 + "x");
                height = call(asked, "height", site, which);
            }
            if (!height.equals(NO_INDEX)) {
                heights.append(height);
            }
            if (heights.length() == 0) {
                break;
            }
            sites.add(heights.toString());
        }
        return String.join(" ", sites);
    }

    /** The answers of a question from 0 on, until there is no such number. */
    private String readRow(Object asked, String name) {
        List<String> answers = new ArrayList<>();
        for (int k = 0; k < LONGEST_READING; k++) {
            String answer = call(asked, name, k);
            if (!answer.equals(NO_INDEX)) {
                answers.add(answer);
            }
            if (answer.startsWith("throws")) {
                break;
            }
        }
        return String.join(" ", answers);
    }

    private String callWritten(Object asked, String question) {
        int open = question.indexOf('(');
        String list = question.substring(open + 1, question.length() - 1);
        List<Object> arguments = new ArrayList<>();
        for (String word : list.isEmpty() ? new String[0] : list.split(", ")) {
            arguments.add(argument(word));
        }
        return call(asked, question.substring(0, open), arguments.toArray());
    }

    private static Object argument(String word) {
        return switch (word) {
            case "true", "false" -> Boolean.valueOf(word);
            case "MIN" -> Integer.MIN_VALUE;
            case "MAX" -> Integer.MAX_VALUE;
            default -> Integer.valueOf(word);
        };
    }

    private String call(Object asked, String name, Object... arguments) {
        calls += asked == studio ? 1 : 0;
        Class<?>[] types = new Class<?>[arguments.length];
        for (int k = 0; k < types.length; k++) {
            types[k] = arguments[k] instanceof Boolean ? boolean.class : int.class;
        }
        try {
            Method method = asked.getClass().getDeclaredMethod(name, types);
            return method.invoke(asked, arguments).toString();
        } catch (InvocationTargetException e) {
            return "throws " + e.getCause().getClass().getSimpleName();
        } catch (NoSuchMethodException | IllegalAccessException e) {
            throw new IllegalArgumentException("no such call: " + name, e);
        }
    }
}
