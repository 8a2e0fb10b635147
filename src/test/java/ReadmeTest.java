import java.lang.reflect.Method;
import java.nio.file.Files;
import java.nio.file.Path;
import java.util.regex.Matcher;
import java.util.regex.Pattern;

/** The calls in README.md answer what it says behind each of them, and no call is left out of it. */
public final class ReadmeTest {
    private static final Pattern TYPED = Pattern.compile("for \\(char c : \"(.*)\"\\.toCharArray\\(\\)\\) bars\\.type\\(c\\);");
    private static final Pattern CALL = Pattern.compile("bars\\.(\\w+)\\((.*)\\); +// (-?\\d+)");
    private static final String START = "BlackBars bars = new BlackBars();";

    private static BlackBars bars = null;
    private static int calls = 0;
    private static int wrong = 0;

    public static void main(String[] args) throws Exception {
        String readme = Files.readString(Path.of("README.md"));
        boolean inCode = false;
        for (String line : readme.split("\n")) {
            if (line.startsWith("```")) {
                inCode = line.equals("```java");
            } else if (inCode) {
                runLine(line);
            }
        }
        for (Method method : BlackBars.class.getMethods()) {
            if (method.getDeclaringClass() == BlackBars.class && !readme.contains("`" + method.getName() + "(")) {
                fault(method.getName() + " is not told");
            }
        }
        if (calls == 0) {
            fault("no calls are told");
        }
        System.out.println(wrong == 0 ? "README.md is right in " + calls + " calls" : wrong + " faults");
        if (wrong != 0) {
            System.exit(1);
        }
    }

    private static void fault(String what) {
        wrong++;
        System.out.println("README.md: " + what);
    }

    private static void runLine(String line) throws Exception {
        Matcher typed = TYPED.matcher(line);
        Matcher call = CALL.matcher(line);
        if (line.equals(START)) {
            bars = new BlackBars();
        } else if (bars != null && typed.matches()) {
            for (char c : typed.group(1).toCharArray()) {
                bars.type(c);
            }
        } else if (bars != null && call.matches()) {
            calls++;
            int answer = answer(call.group(1), call.group(2));
            if (answer != Integer.parseInt(call.group(3))) {
                fault(line + ": the answer is " + answer);
            }
        } else {
            fault("cannot be run: " + line);
        }
    }

    private static int answer(String name, String told) throws Exception {
        String[] parts = told.isEmpty() ? new String[0] : told.split(", ");
        Class<?>[] types = new Class<?>[parts.length];
        Object[] arguments = new Object[parts.length];
        for (int i = 0; i < parts.length; i++) {
            types[i] = int.class;
            arguments[i] = Integer.parseInt(parts[i]);
        }
        return (int) BlackBars.class.getMethod(name, types).invoke(bars, arguments);
    }
}
