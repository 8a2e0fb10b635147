import java.lang.reflect.InvocationTargetException;
import java.lang.reflect.Method;
import java.util.ArrayList;
import java.util.Arrays;
import java.util.List;

/** No call throws, for any arguments in any state, and one that returns an error changes nothing. */
public final class WrongArgumentsTest {
    private static final int[] VALUES = {
        Integer.MIN_VALUE, Integer.MIN_VALUE + 1, -65536, -15, -2, -1, 0, 1, 2, 3, 4, 5, 7, 8, 9, 10,
        17, 20, 31, 39, 40, 50, 96, 97, 122, 123, 127, 201, 501, 65536,
        Integer.MAX_VALUE - 1, Integer.MAX_VALUE
    };
    /** A third argument is tried with these alone. */
    private static final int[] FEW = {Integer.MIN_VALUE, -1, 0, 1, 3, 4, Integer.MAX_VALUE};

    /** With those that make the object and those of the snapshot they stay under 512 calls. */
    private static final int QUESTIONS_TOGETHER = 100;

    private static int wrong = 0;

    public static void main(String[] args) throws Exception {
        for (int kind = 0; kind < 4; kind++) {
            for (Method method : BlackBars.class.getDeclaredMethods()) {
                if (method.getName().equals("type") || java.lang.reflect.Modifier.isPrivate(method.getModifiers())) {
                    continue;
                }
                tryAll(method, kind);
            }
        }
        typeAll();
        System.out.println(wrong == 0 ? "wrong arguments change nothing" : wrong + " faults");
        if (wrong != 0) {
            System.exit(1);
        }
    }

    private static void fault(String what) {
        wrong++;
        System.out.println(what);
    }

    private static void type(BlackBars x, String text) {
        x.clearText();
        for (char c : text.toCharArray()) {
            x.type(c);
        }
    }

    /** Four states: new, full, with a page alone, and with a faulty text and names alone. */
    private static BlackBars made(int kind) {
        BlackBars x = new BlackBars();
        if (kind == 1 || kind == 3) {
            for (int i = 0; i < 8; i++) {
                type(x, "abcdefgh".substring(i));
                x.name();
            }
            for (String ending : new String[] {"s", "ing", "ed", "a"}) {
                type(x, ending);
                x.ending();
            }
            x.set(0, 2);
        }
        if (kind == 1 || kind == 2) {
            type(x, "abcdefghing the h ha fghed a " + "i ".repeat(33) + "ghs");
            x.page();
        }
        if (kind == 3) {
            type(x, "not a  page");
        }
        return x;
    }

    private static void tryAll(Method method, int kind) throws Exception {
        List<Object[]> calls = allCalls(method.getParameterCount());
        int[] before = snapshot(made(kind));
        int together = isChange(method) ? 1 : QUESTIONS_TOGETHER;
        for (int from = 0; from < calls.size(); from += together) {
            BlackBars x = made(kind);
            int answer = 0;
            for (Object[] arguments : calls.subList(from, Math.min(calls.size(), from + together))) {
                answer = call(x, method, arguments);
            }
            boolean refused = !isChange(method) || answer < -1;
            if (refused && !Arrays.equals(before, snapshot(x))) {
                fault(method.getName() + Arrays.toString(calls.get(from)) + " changed something");
            }
        }
    }

    private static List<Object[]> allCalls(int parameters) {
        List<Object[]> calls = new ArrayList<>();
        int[] firsts = parameters > 0 ? VALUES : new int[] {0};
        int[] seconds = parameters > 1 ? VALUES : new int[] {0};
        int[] thirds = parameters > 2 ? FEW : new int[] {0};
        for (int first : firsts) {
            for (int second : seconds) {
                for (int third : thirds) {
                    calls.add(Arrays.copyOf(new Object[] {first, second, third}, parameters));
                }
            }
        }
        return calls;
    }

    private static boolean isChange(Method method) {
        return List.of("clearText", "page", "name", "ending", "dropName", "dropEnding", "widen", "set", "undo")
            .contains(method.getName());
    }

    private static int call(BlackBars x, Method method, Object[] arguments) throws Exception {
        try {
            return (Integer) method.invoke(x, arguments);
        } catch (InvocationTargetException e) {
            fault(method.getName() + Arrays.toString(arguments) + " threw " + e.getCause());
            return 0;
        }
    }

    private static void typeAll() {
        for (int value : VALUES) {
            int answer = new BlackBars().type(value);
            int due = value >= 32 && value <= 126 ? 1 : BlackBars.INVALID_ARGUMENT;
            if (answer != due) {
                fault("type(" + value + ") answered " + answer);
            }
        }
    }

    /** So much of what can be asked of an object that its calls stay under 512. */
    private static int[] snapshot(BlackBars x) {
        List<Integer> all = new ArrayList<>();
        for (int what = 0; what < 17; what++) {
            all.add(x.count(what));
        }
        for (int word = 0; word < 40; word++) {
            all.add(x.word(word, 2));
            all.add(x.word(word, 4));
            all.add(x.word(word, 7));
        }
        for (int name = 0; name < 8; name++) {
            for (int ending = -1; ending < 4; ending++) {
                all.add(x.form(name, ending, 1));
                all.add(x.form(name, ending, 2));
            }
        }
        all.add(x.fault(0));
        return all.stream().mapToInt(i -> i).toArray();
    }
}
