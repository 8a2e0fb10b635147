import java.util.ArrayList;
import java.util.Arrays;
import java.util.List;
import java.util.TreeSet;

/**
 * Long runs of calls, each answer compared with that of a model that is written from the document
 * with strings and lists, and works out everything anew at every question.
 */
public final class ModelTest {
    private static final int RUNS = 1500;
    private static final int CALLS = 512;

    private static long seed = 0;

    public static void main(String[] args) {
        for (int run = 1; run <= RUNS; run++) {
            seed = run * 7919L;
            String fault = faultOfRun();
            if (fault != null) {
                System.out.println("run " + run + ": " + fault);
                System.exit(1);
            }
        }
        System.out.println(RUNS + " runs are as the model's");
    }

    /** The same numbers in every run of this test. */
    private static int pick(int from, int to) {
        seed = seed * 6364136223846793005L + 1442695040888963407L;
        return from + (int) ((seed >>> 33) % (to - from + 1));
    }

    private static String faultOfRun() {
        BlackBars x = new BlackBars();
        Model m = new Model();
        int alphabet = pick(0, 3);
        int calls = 0;
        while (calls < CALLS) {
            for (int[] call : nextCalls(m, alphabet)) {
                if (calls >= CALLS) {
                    break;
                }
                calls++;
                int got = answer(x, call);
                int due = m.answer(call);
                if (got != due) {
                    return "call " + calls + " " + Arrays.toString(call) + " answered " + got + ", due is " + due;
                }
            }
        }
        return null;
    }

    private static List<int[]> nextCalls(Model m, int alphabet) {
        List<int[]> calls = new ArrayList<>();
        int kind = pick(0, 99);
        if (kind < 12) {
            typeWord(calls, alphabet, pick(1, pick(0, 9) == 0 ? 9 : 3));
            calls.add(new int[] {4});
        } else if (kind < 17) {
            typeWord(calls, alphabet, pick(1, pick(0, 9) == 0 ? 4 : 2));
            calls.add(new int[] {5});
        } else if (kind < 21) {
            typePage(calls, m, alphabet);
        } else if (kind < 23) {
            calls.add(new int[] {pick(6, 7), pick(-1, 4)});
        } else if (kind < 27) {
            calls.add(new int[] {8, pick(96, 123), pick(0, 10)});
        } else if (kind < 35) {
            int what = pick(-1, 5);
            int[] most = {1, 4, 51, 9, 10, 201, 2};
            calls.add(new int[] {9, what, pick(what == 4 ? 19 : -1, most[what + 1])});
        } else if (kind < 38) {
            calls.add(new int[] {21});
        } else if (kind < 40) {
            calls.add(new int[] {0, pick(31, 127)});
            calls.add(new int[] {2, pick(-1, 2)});
            calls.add(new int[] {3});
        } else {
            askAll(calls, m);
        }
        return calls;
    }

    private static int letter(int alphabet) {
        String[] letters = {"ab", "iaf", "ilam", "abcdefghijklmnopqrstuvwxyz"};
        return letters[alphabet].charAt(pick(0, letters[alphabet].length() - 1));
    }

    private static void typeWord(List<int[]> calls, int alphabet, int length) {
        calls.add(new int[] {1});
        for (int i = 0; i < length; i++) {
            calls.add(new int[] {0, letter(alphabet)});
        }
    }

    private static void typePage(List<int[]> calls, Model m, int alphabet) {
        calls.add(new int[] {1});
        int words = pick(0, pick(0, 5) == 0 ? 42 : 12);
        for (int i = 0; i < words; i++) {
            if (i > 0 || pick(0, 30) == 0) {
                calls.add(new int[] {0, ' '});
            }
            List<String> forms = m.forms();
            if (!forms.isEmpty() && words < 13 && pick(0, 3) > 0) {
                for (char c : forms.get(pick(0, forms.size() - 1)).toCharArray()) {
                    calls.add(new int[] {0, c});
                }
            } else {
                int length = words > 12 ? pick(1, 2) : pick(1, pick(0, 9) == 0 ? 13 : 4);
                for (int k = 0; k < length; k++) {
                    calls.add(new int[] {0, letter(alphabet)});
                }
            }
        }
        calls.add(new int[] {2, pick(0, 1)});
        calls.add(new int[] {3});
    }

    private static void askAll(List<int[]> calls, Model m) {
        int word = pick(-1, m.s.page.size());
        int name = pick(-1, m.s.names.size());
        int ending = pick(-2, m.s.endings.size());
        calls.add(new int[] {10, pick(-1, 17)});
        calls.add(new int[] {11, word, pick(-1, 10)});
        calls.add(new int[] {12, word, pick(-1, 4)});
        int line = pick(-1, m.s.page.size() / 2 + 1);
        calls.add(new int[] {13, line, pick(-1, 5)});
        calls.add(new int[] {14, line});
        calls.add(new int[] {15, name, ending, pick(-1, 4)});
        calls.add(new int[] {16, pick(0, 9) == 0 ? pick(-2, 502) : pick(0, 40)});
        calls.add(new int[] {17, word, pick(-1, 4), pick(0, 12) == 0 ? 2 : pick(0, 1)});
        calls.add(new int[] {18, name, pick(-1, m.s.names.size())});
        calls.add(new int[] {19, pick(0, 9) == 0 ? pick(-1, 9) : pick(1, 3)});
        calls.add(new int[] {20});
    }

    private static int answer(BlackBars x, int[] c) {
        switch (c[0]) {
            case 0: return x.type(c[1]);
            case 1: return x.clearText();
            case 2: return x.fault(c[1]);
            case 3: return x.page();
            case 4: return x.name();
            case 5: return x.ending();
            case 6: return x.dropName(c[1]);
            case 7: return x.dropEnding(c[1]);
            case 8: return x.widen(c[1], c[2]);
            case 9: return x.set(c[1], c[2]);
            case 10: return x.count(c[1]);
            case 11: return x.word(c[1], c[2]);
            case 12: return x.letter(c[1], c[2]);
            case 13: return x.line(c[1], c[2]);
            case 14: return x.widthAgain(c[1]);
            case 15: return x.form(c[1], c[2], c[3]);
            case 16: return x.under(c[1]);
            case 17: return x.guess(c[1], c[2], c[3]);
            case 18: return x.same(c[1], c[2]);
            case 19: return x.stepFor(c[1]);
            case 20: return x.modeFor();
            default: return x.undo();
        }
    }

    /** What a change can change; a change makes a new one, so that the history keeps the old. */
    private record State(List<String> page, List<String> names, List<String> endings,
            List<Integer> widths, List<Integer> settings) {

        static State first() {
            List<Integer> widths = new ArrayList<>();
            for (char c = 'a'; c <= 'z'; c++) {
                widths.add("ijl".indexOf(c) >= 0 ? 2 : "frt".indexOf(c) >= 0 ? 3 : "mw".indexOf(c) >= 0 ? 6 : 4);
            }
            return new State(List.of(), List.of(), List.of(), widths, List.of(0, 10, 3, 3, 80));
        }
    }

    private static final class Model {
        private static final int INVALID = -11;
        private static final int IMPOSSIBLE = -12;
        private static final int LIMIT = -13;
        private static final int NONE = -14;

        private String text = "";
        private State s = State.first();
        private final List<State> history = new ArrayList<>();

        int answer(int[] c) {
            switch (c[0]) {
                case 0: return type(c[1]);
                case 1: return clear();
                case 2: return c[1] < 0 || c[1] > 1 ? INVALID : fault()[c[1]];
                case 3: return page();
                case 4: return add(8, 8, s.names, true);
                case 5: return add(3, 4, s.endings, false);
                case 6: return drop(c[1], s.names, true);
                case 7: return drop(c[1], s.endings, false);
                case 8: return widen(c[1], c[2]);
                case 9: return setting(c[1], c[2]);
                case 10: return count(c[1]);
                case 11: return word(c[1], c[2]);
                case 12: return letter(c[1], c[2]);
                case 13: return line(c[1], c[2]);
                case 14: return line(c[1], 2);
                case 15: return form(c[1], c[2], c[3]);
                case 16: return c[1] < 0 || c[1] > 500 ? INVALID : under(c[1], now());
                case 17: return guess(c[1], c[2], c[3]);
                case 18: return same(c[1], c[2]);
                case 19: return stepFor(c[1]);
                case 20: return modeFor();
                default: return undo();
            }
        }

        private int type(int c) {
            if (c < 32 || c > 126) {
                return INVALID;
            }
            if (text.length() == 200) {
                return LIMIT;
            }
            text += (char) c;
            return text.length();
        }

        private int clear() {
            int length = text.length();
            text = "";
            return length;
        }

        private int[] fault() {
            for (int i = 0; i < text.length(); i++) {
                String ahead = text.substring(0, i);
                char c = text.charAt(i);
                String[] words = ahead.trim().isEmpty() ? new String[0] : ahead.trim().split(" ");
                boolean begins = i == 0 || ahead.endsWith(" ");
                int reason = 0;
                if (c != ' ' && (c < 'a' || c > 'z')) {
                    reason = 1;
                } else if (c == ' ') {
                    reason = begins || i == text.length() - 1 ? 2 : 0;
                } else if (!begins && words[words.length - 1].length() == 12) {
                    reason = 3;
                } else if (begins && words.length == 40) {
                    reason = 4;
                }
                if (reason != 0) {
                    return new int[] {i, reason};
                }
            }
            return new int[] {NONE, NONE};
        }

        private void change(State next) {
            history.add(s);
            if (history.size() == 5) {
                history.remove(0);
            }
            s = next;
        }

        private int page() {
            if (fault()[0] != NONE) {
                return IMPOSSIBLE;
            }
            List<String> words = text.isEmpty() ? List.of() : List.of(text.split(" "));
            change(new State(words, s.names, s.endings, s.widths, s.settings));
            return words.size();
        }

        private int add(int letters, int most, List<String> words, boolean names) {
            if (!text.matches("[a-z]{1," + letters + "}") || words.contains(text)) {
                return IMPOSSIBLE;
            }
            if (words.size() == most) {
                return LIMIT;
            }
            List<String> next = new ArrayList<>(words);
            next.add(text);
            replace(next, names);
            return words.size();
        }

        private int drop(int index, List<String> words, boolean names) {
            if (index < 0 || index >= words.size()) {
                return INVALID;
            }
            List<String> next = new ArrayList<>(words);
            next.remove(index);
            replace(next, names);
            return next.size();
        }

        private void replace(List<String> next, boolean names) {
            change(new State(s.page, names ? next : s.names, names ? s.endings : next, s.widths, s.settings));
        }

        private int widen(int letter, int width) {
            if (letter < 'a' || letter > 'z' || width < 1 || width > 9) {
                return INVALID;
            }
            List<Integer> next = new ArrayList<>(s.widths);
            int previous = next.set(letter - 'a', width);
            change(new State(s.page, s.names, s.endings, next, s.settings));
            return previous;
        }

        private int setting(int what, int value) {
            int[] least = {0, 1, 1, 1, 20};
            int[] most = {3, 50, 8, 9, 200};
            if (what < 0 || what > 4 || value < least[what] || value > most[what]) {
                return INVALID;
            }
            List<Integer> next = new ArrayList<>(s.settings);
            int previous = next.set(what, value);
            change(new State(s.page, s.names, s.endings, s.widths, next));
            return previous;
        }

        List<String> forms() {
            List<String> forms = new ArrayList<>();
            for (String name : s.names) {
                forms.add(name);
                for (String ending : s.endings) {
                    forms.add(name + ending);
                }
            }
            return forms;
        }

        private int each() {
            return s.endings.size() + 1;
        }

        private int width(String word) {
            return word.chars().map(c -> s.widths.get(c - 'a')).sum();
        }

        private List<Integer> now() {
            return bars(s.settings.get(0), s.settings.get(1));
        }

        /** The widths of the bars of all forms. */
        private List<Integer> bars(int mode, int step) {
            List<Integer> widths = new ArrayList<>();
            forms().forEach(form -> widths.add(width(form)));
            List<Integer> bars = new ArrayList<>(widths);
            if (mode == 1) {
                bars.replaceAll(w -> {
                    int bar = step;
                    while (bar < w) {
                        bar += step;
                    }
                    return bar;
                });
            } else if (mode == 2) {
                for (List<Integer> group : groups(widths)) {
                    int greatest = group.stream().mapToInt(widths::get).max().orElse(0);
                    group.forEach(form -> bars.set(form, greatest));
                }
            } else if (mode == 3) {
                bars.replaceAll(w -> widths.stream().mapToInt(v -> v).max().orElse(0));
            }
            return bars;
        }

        private List<List<Integer>> groups(List<Integer> widths) {
            List<Integer> order = new ArrayList<>();
            for (int form = 0; form < widths.size(); form++) {
                order.add(form);
            }
            order.sort((a, b) -> widths.get(a) - widths.get(b)); // keeps the order of equal ones
            List<List<Integer>> groups = new ArrayList<>();
            for (int form : order) {
                if (groups.isEmpty() || groups.get(groups.size() - 1).size() == s.settings.get(2)) {
                    groups.add(new ArrayList<>());
                }
                groups.get(groups.size() - 1).add(form);
            }
            int last = groups.size() - 1;
            if (last > 0 && groups.get(last).size() < s.settings.get(2)) {
                groups.get(last - 1).addAll(groups.remove(last));
            }
            return groups;
        }

        private int hiddenAs(int word) {
            return forms().indexOf(s.page.get(word));
        }

        private int shown(int word, List<Integer> bars) {
            int form = hiddenAs(word);
            return form < 0 ? width(s.page.get(word)) : bars.get(form);
        }

        private int under(int width, List<Integer> bars) {
            int mask = 0;
            for (int form = 0; form < bars.size(); form++) {
                mask |= bars.get(form) == width ? 1 << form / each() : 0;
            }
            return mask;
        }

        /** The lines as lists of words. */
        private List<List<Integer>> lines() {
            List<List<Integer>> lines = new ArrayList<>();
            List<Integer> bars = now();
            for (int word = 0; word < s.page.size(); word++) {
                List<Integer> tried = new ArrayList<>();
                if (!lines.isEmpty()) {
                    tried.addAll(lines.get(lines.size() - 1));
                }
                tried.add(word);
                if (!lines.isEmpty() && lineWidth(tried, bars) <= s.settings.get(4)) {
                    lines.set(lines.size() - 1, tried);
                } else {
                    lines.add(List.of(word));
                }
            }
            return lines;
        }

        private int lineWidth(List<Integer> words, List<Integer> bars) {
            return words.stream().mapToInt(w -> shown(w, bars)).sum() + (words.size() - 1) * s.settings.get(3);
        }

        private List<Integer> hiddenWords() {
            List<Integer> hidden = new ArrayList<>();
            for (int word = 0; word < s.page.size(); word++) {
                if (hiddenAs(word) >= 0) {
                    hidden.add(word);
                }
            }
            return hidden;
        }

        private int namesUnder(int word, List<Integer> bars) {
            return Integer.bitCount(under(shown(word, bars), bars));
        }

        private int sumShown(List<Integer> bars) {
            int sum = 0;
            for (int word = 0; word < s.page.size(); word++) {
                sum += shown(word, bars);
            }
            return sum;
        }

        private int count(int what) {
            List<Integer> bars = now();
            switch (what) {
                case 0: return s.page.size();
                case 1: return hiddenWords().size();
                case 2: return lines().size();
                case 3: return s.names.size();
                case 4: return s.endings.size();
                case 5: return forms().size();
                case 6: case 7: case 8: case 9: case 10: return s.settings.get(what - 6);
                case 11: return (int) hiddenWords().stream().filter(w -> namesUnder(w, bars) == 1).count();
                case 12: return sumShown(bars);
                case 13: return hiddenWords().stream().mapToInt(w -> shown(w, bars) - width(s.page.get(w))).sum();
                case 14: return (int) hiddenWords().stream().mapToInt(w -> shown(w, bars)).distinct().count();
                case 15: return history.size();
                case 16: return text.length();
                default: return INVALID;
            }
        }

        private int word(int word, int what) {
            if (word < 0 || word >= s.page.size() || what < 0 || what > 9) {
                return INVALID;
            }
            int form = hiddenAs(word);
            if (form < 0 && (what == 4 || what == 5 || what == 8 || what == 9)) {
                return NONE;
            }
            List<List<Integer>> lines = lines();
            int line = 0;
            while (!lines.get(line).contains(word)) {
                line++;
            }
            List<Integer> ahead = lines.get(line).subList(0, lines.get(line).indexOf(word));
            List<Integer> bars = now();
            switch (what) {
                case 0: return s.page.get(word).length();
                case 1: return width(s.page.get(word));
                case 2: return shown(word, bars);
                case 3: return form < 0 ? 0 : 1;
                case 4: return form / each();
                case 5: return form % each() - 1;
                case 6: return line;
                case 7: return lineWidth(ahead, bars) + s.settings.get(3);
                case 8: return under(shown(word, bars), bars);
                default: return namesUnder(word, bars);
            }
        }

        private int letter(int word, int index) {
            if (word < 0 || word >= s.page.size() || index < 0) {
                return INVALID;
            }
            if (hiddenAs(word) >= 0) {
                return IMPOSSIBLE;
            }
            return index < s.page.get(word).length() ? s.page.get(word).charAt(index) : NONE;
        }

        private int line(int line, int what) {
            List<List<Integer>> lines = lines();
            if (line < 0 || line >= lines.size() || what < 0 || what > 4) {
                return INVALID;
            }
            List<Integer> words = lines.get(line);
            int width = lineWidth(words, now());
            switch (what) {
                case 0: return words.get(0);
                case 1: return words.size();
                case 2: return width;
                case 3: return width > s.settings.get(4) ? 0 : s.settings.get(4) - width;
                default: return (int) words.stream().filter(w -> hiddenAs(w) >= 0).count();
            }
        }

        private int form(int name, int ending, int what) {
            if (name < 0 || name >= s.names.size() || ending < -1 || ending >= s.endings.size()
                    || what < 0 || what > 3) {
                return INVALID;
            }
            String form = s.names.get(name) + (ending < 0 ? "" : s.endings.get(ending));
            int number = name * each() + ending + 1;
            switch (what) {
                case 0: return form.length();
                case 1: return width(form);
                case 2: return now().get(number);
                default: return (int) hiddenWords().stream().filter(w -> hiddenAs(w) == number).count();
            }
        }

        private int guess(int word, int place, int what) {
            if (word < 0 || word >= s.page.size() || place < 0 || what < 0 || what > 1) {
                return INVALID;
            }
            if (hiddenAs(word) < 0) {
                return IMPOSSIBLE;
            }
            List<Integer> bars = now();
            int bar = shown(word, bars);
            TreeSet<Integer> guesses = new TreeSet<>();
            for (int name = 0; name < s.names.size(); name++) {
                int least = 1000;
                for (int form = name * each(); form < (name + 1) * each(); form++) {
                    if (bars.get(form) == bar) {
                        least = Math.min(least, bar - width(forms().get(form)));
                    }
                }
                if (least < 1000) {
                    guesses.add(least * 8 + name);
                }
            }
            if (place >= guesses.size()) {
                return NONE;
            }
            int guess = new ArrayList<>(guesses).get(place);
            return what == 0 ? guess % 8 : guess / 8;
        }

        private int same(int one, int other) {
            int names = s.names.size();
            if (one < 0 || one >= names || other < 0 || other >= names) {
                return INVALID;
            }
            List<Integer> bars = now();
            for (int word : hiddenWords()) {
                int name = hiddenAs(word) / each();
                int ending = hiddenAs(word) % each();
                if (name == one && !bars.get(other * each() + ending).equals(bars.get(hiddenAs(word)))) {
                    return 0;
                }
                if (name == other && !bars.get(one * each() + ending).equals(bars.get(hiddenAs(word)))) {
                    return 0;
                }
            }
            return 1;
        }

        private int stepFor(int names) {
            if (names < 1 || names > 8) {
                return INVALID;
            }
            for (int step = 1; step <= 50; step++) {
                List<Integer> bars = bars(1, step);
                if (hiddenWords().stream().allMatch(w -> namesUnder(w, bars) >= names)) {
                    return step;
                }
            }
            return NONE;
        }

        private int modeFor() {
            int best = NONE;
            for (int mode = 3; mode >= 0; mode--) {
                List<Integer> bars = bars(mode, s.settings.get(1));
                boolean betrayed = hiddenWords().stream().anyMatch(w -> namesUnder(w, bars) == 1);
                if (!betrayed && (best == NONE || sumShown(bars) <= sumShown(bars(best, s.settings.get(1))))) {
                    best = mode;
                }
            }
            return best;
        }

        private int undo() {
            if (history.isEmpty()) {
                return IMPOSSIBLE;
            }
            s = history.remove(history.size() - 1);
            return history.size();
        }
    }
}
