import java.util.ArrayList;
import java.util.HashMap;
import java.util.List;
import java.util.Map;
import java.util.stream.IntStream;

/**
 * Runs of calls on new objects, each for one sentence of the document, told as rows of text.
 *
 * A row is a text in quotes, which is typed in place of the present one, or a call with its
 * arguments and, behind "=", the answer that is due, or both, one behind the other:
 *
 *   'ann' name = 0
 *   word 0 2 = 12
 *   count 6..8 = 0 10 3         the arguments 6, 7 and 8, each with an answer of its own
 *   fault 0..1 = NOT_FOUND      both arguments with this answer
 *   set 0 1                     any answer but an error
 *
 * A call that answers an error changes nothing: behind each one all is asked that can be asked,
 * of the present state and of those in the history, and compared with the answers without it.
 */
final class Edges {
    /** Nothing is promised about an object after so many calls. */
    private static final int MOST_CALLS = 512;
    private static final int MOST_STATES = 4;
    private static final int MOST_NAMES = 8;
    private static final int WIDEST_BAR = 150;

    private final Map<List<Call>, List<Integer>> answersWithoutRefused = new HashMap<>();
    private int edges = 0;
    private int wrong = 0;
    private String sentence = "";
    private BlackBars object;
    private int calls;
    private List<Call> accepted;

    /** Runs the rows on a new object. */
    void edge(String told, String... rows) {
        edges++;
        sentence = told;
        object = new BlackBars();
        calls = 0;
        accepted = new ArrayList<>();
        answersWithoutRefused.clear();
        for (String row : rows) {
            runRow(row);
        }
        if (calls > MOST_CALLS) {
            fault("the rows make " + calls + " calls");
        }
    }

    /** Tells how all went, and ends the test. */
    void end() {
        System.out.println(wrong == 0 ? edges + " edges hold" : wrong + " answers are wrong");
        if (wrong != 0) {
            System.exit(1);
        }
    }

    private void fault(String what) {
        wrong++;
        System.out.println(sentence + ": " + what);
    }

    // ---- rows

    private void runRow(String row) {
        String rest = row;
        if (row.startsWith("'")) {
            int end = row.lastIndexOf('\'');
            typeAnew(row.substring(1, end));
            rest = row.substring(end + 1).trim();
        }
        if (!rest.isEmpty()) {
            runCalls(rest);
        }
    }

    private void typeAnew(String text) {
        run(new Call("clearText"));
        for (char c : text.toCharArray()) {
            Call type = new Call("type").with(c);
            int answer = run(type);
            if (answer < 0) {
                fault(type + " answered " + answer + " in '" + text + "'");
            }
        }
    }

    private void runCalls(String row) {
        String[] sides = row.split(" *= *");
        List<Call> told = callsOf(sides[0]);
        String[] dues = sides.length > 1 ? sides[1].split(" ") : new String[0];
        if (dues.length > 1 && dues.length != told.size()) {
            fault("'" + row + "' has " + told.size() + " calls");
            return;
        }
        for (int i = 0; i < told.size(); i++) {
            Call call = told.get(i);
            int answer = run(call);
            boolean right = answer >= -1;
            if (dues.length > 0) {
                right = answer == numberOf(dues[dues.length == 1 ? 0 : i]);
            }
            if (!right) {
                fault(call + " answered " + answer + " in '" + row + "'");
            }
        }
    }

    /** The calls that a row tells, more than one if an argument is a range. */
    private static List<Call> callsOf(String row) {
        String[] parts = row.split(" ");
        List<Call> told = List.of(new Call(parts[0]));
        for (int i = 1; i < parts.length; i++) {
            List<Call> longer = new ArrayList<>();
            for (Call call : told) {
                for (int value : valuesOf(parts[i])) {
                    longer.add(call.with(value));
                }
            }
            told = longer;
        }
        return told;
    }

    private static int[] valuesOf(String argument) {
        String[] ends = argument.split("\\.\\.");
        int first = numberOf(ends[0]);
        int last = numberOf(ends[ends.length - 1]);
        return first == last ? new int[] {first} : IntStream.rangeClosed(first, last).toArray();
    }

    private static int numberOf(String told) {
        switch (told) {
            case "INVALID_ARGUMENT": return -11;
            case "NOT_POSSIBLE": return -12;
            case "LIMIT_REACHED": return -13;
            case "NOT_FOUND": return -14;
            case "least": return Integer.MIN_VALUE;
            case "greatest": return Integer.MAX_VALUE;
            default: return Integer.parseInt(told);
        }
    }

    private int run(Call call) {
        calls++;
        int answer = call.of(object);
        if (answer < -1) {
            seeThatNothingChanges(call);
        } else if (call.isChange()) {
            accepted.add(call);
        }
        return answer;
    }

    // ---- refused calls

    private void seeThatNothingChanges(Call refused) {
        List<Integer> before = answersWithoutRefused.computeIfAbsent(List.copyOf(accepted), this::allAnswers);
        List<Call> with = new ArrayList<>(accepted);
        with.add(refused);
        if (!allAnswers(with).equals(before)) {
            fault(refused + " is refused but changes something");
        }
    }

    /** The answers about the present state, those in the history and the text. */
    private List<Integer> allAnswers(List<Call> made) {
        List<Integer> answers = new ArrayList<>();
        List<Call> all = new ArrayList<>(made);
        for (int undone = 0; undone <= MOST_STATES; undone++) {
            ask(all, questions(after(all)), answers);
            all.add(new Call("undo"));
        }
        ask(withTextAsPage(made), callsOf("letter 0..39 0..11"), answers);
        return answers;
    }

    /** The text is told by the letters of its page, if there are no names that hide them. */
    private static List<Call> withTextAsPage(List<Call> made) {
        List<Call> all = new ArrayList<>(made);
        for (int name = 0; name < MOST_NAMES; name++) {
            all.add(new Call("dropName").with(0));
        }
        all.add(new Call("page"));
        return all;
    }

    /** Asks as many objects as are needed, so that none has too many calls. */
    private void ask(List<Call> made, List<Call> questions, List<Integer> answers) {
        int most = MOST_CALLS - made.size();
        if (most < 1) {
            fault("too many calls to ask behind them");
            return;
        }
        BlackBars asked = null;
        for (int i = 0; i < questions.size(); i++) {
            if (i % most == 0) {
                asked = after(made);
            }
            answers.add(questions.get(i).of(asked));
        }
    }

    private static BlackBars after(List<Call> made) {
        BlackBars x = new BlackBars();
        for (Call call : made) {
            call.of(x);
        }
        return x;
    }

    private static List<Call> questions(BlackBars present) {
        int words = present.count(0);
        int lines = present.count(2);
        int names = present.count(3);
        int endings = present.count(4);
        String[] rows = {
            "count 0..16", "fault 0..1", "word 0.." + words + " 0..9", "letter 0.." + words + " 0..12",
            "line 0.." + lines + " 0..4", "widthAgain 0.." + lines,
            "form 0.." + names + " -1.." + endings + " 0..3", "under 0.." + WIDEST_BAR,
            "guess 0.." + words + " 0..8 0..1", "same 0.." + names + " 0.." + names, "stepFor 1..8", "modeFor"
        };
        List<Call> all = new ArrayList<>();
        for (String row : rows) {
            all.addAll(callsOf(row));
        }
        return all;
    }

    /** A call with its arguments. */
    private record Call(String method, List<Integer> arguments) {
        Call(String method) {
            this(method, List.of());
        }

        Call with(int argument) {
            List<Integer> more = new ArrayList<>(arguments);
            more.add(argument);
            return new Call(method, more);
        }

        boolean isChange() {
            return List.of("type", "clearText", "page", "name", "ending", "dropName", "dropEnding",
                "widen", "set", "undo").contains(method);
        }

        int of(BlackBars x) {
            int a = arguments.size() > 0 ? arguments.get(0) : 0;
            int b = arguments.size() > 1 ? arguments.get(1) : 0;
            int c = arguments.size() > 2 ? arguments.get(2) : 0;
            switch (method) {
                case "type": return x.type(a);
                case "clearText": return x.clearText();
                case "fault": return x.fault(a);
                case "page": return x.page();
                case "name": return x.name();
                case "ending": return x.ending();
                case "dropName": return x.dropName(a);
                case "dropEnding": return x.dropEnding(a);
                case "widen": return x.widen(a, b);
                case "set": return x.set(a, b);
                case "count": return x.count(a);
                case "word": return x.word(a, b);
                case "letter": return x.letter(a, b);
                case "line": return x.line(a, b);
                case "widthAgain": return x.widthAgain(a);
                case "form": return x.form(a, b, c);
                case "under": return x.under(a);
                case "guess": return x.guess(a, b, c);
                case "same": return x.same(a, b);
                case "stepFor": return x.stepFor(a);
                case "modeFor": return x.modeFor();
                case "undo": return x.undo();
                default: throw new IllegalArgumentException("no call " + method);
            }
        }

        @Override
        public String toString() {
            return method + arguments;
        }
    }
}
