import java.lang.reflect.Constructor;
import java.lang.reflect.Field;
import java.lang.reflect.Method;
import java.lang.reflect.Modifier;
import java.nio.file.Files;
import java.nio.file.Path;
import java.util.ArrayList;
import java.util.List;
import java.util.Set;
import java.util.TreeSet;

/** The public face is the document's and no more; those rules of LANGUAGE.md that a text shows. */
public final class FaceTest {
    private static final Set<String> METHODS = Set.of(
        "type(int)", "clearText()", "fault(int)", "page()", "name()", "ending()", "dropName(int)",
        "dropEnding(int)", "widen(int,int)", "set(int,int)", "count(int)", "word(int,int)",
        "letter(int,int)", "line(int,int)", "widthAgain(int)", "form(int,int,int)", "under(int)",
        "guess(int,int,int)", "same(int,int)", "stepFor(int)", "modeFor()", "undo()");
    private static final Set<String> CONSTANTS = Set.of(
        "INVALID_ARGUMENT", "NOT_POSSIBLE", "LIMIT_REACHED", "NOT_FOUND");
    private static final List<String> FORBIDDEN = List.of(
        "\\bthrow\\b", "\\btry\\b", "\\bcatch\\b", "\\bsynchronized\\b", "\\bassert\\b", "->", "::",
        "\\bimport\\b", "\\bpackage\\b", "Exact\\b", "\\bhashCode\\b", "\\btoString\\b", "\\bequals\\b",
        "\\bstatic \\{", "@");

    private static int wrong = 0;

    public static void main(String[] args) throws Exception {
        members();
        nestedClasses();
        sourceText();
        System.out.println(wrong == 0 ? "the face and the rules are kept" : wrong + " faults");
        if (wrong != 0) {
            System.exit(1);
        }
    }

    private static void need(boolean holds, String what) {
        if (!holds) {
            wrong++;
            System.out.println("not so: " + what);
        }
    }

    private static String told(Method method) {
        List<String> types = new ArrayList<>();
        for (Class<?> type : method.getParameterTypes()) {
            types.add(type.getName());
        }
        return method.getName() + "(" + String.join(",", types) + ")";
    }

    private static void members() {
        need(Modifier.isFinal(BlackBars.class.getModifiers()), "the class is final");
        Set<String> methods = new TreeSet<>();
        for (Method method : BlackBars.class.getDeclaredMethods()) {
            if (!Modifier.isPrivate(method.getModifiers())) {
                methods.add(told(method));
                need(Modifier.isPublic(method.getModifiers()), method + " is public or private");
                need(method.getReturnType() == int.class, method + " answers an int");
            }
        }
        need(methods.equals(METHODS), "the public methods are the document's: " + methods);
        Set<String> constants = new TreeSet<>();
        for (Field field : BlackBars.class.getDeclaredFields()) {
            if (!Modifier.isPrivate(field.getModifiers())) {
                constants.add(field.getName());
            }
            boolean isStatic = Modifier.isStatic(field.getModifiers());
            need(!isStatic || Modifier.isFinal(field.getModifiers()), field + " is final");
        }
        need(constants.equals(CONSTANTS), "the public constants are the document's: " + constants);
        Constructor<?>[] constructors = BlackBars.class.getDeclaredConstructors();
        need(constructors.length == 1 && constructors[0].getParameterCount() == 0, "one constructor");
    }

    private static void nestedClasses() {
        Set<String> publicNames = new TreeSet<>();
        for (String method : METHODS) {
            publicNames.add(method.substring(0, method.indexOf('(')));
        }
        Class<?>[] nested = BlackBars.class.getDeclaredClasses();
        need(nested.length <= 11, "at most twelve classes");
        for (Class<?> inside : nested) {
            need(Modifier.isStatic(inside.getModifiers()), inside + " is static");
            need(inside.getDeclaredFields().length <= 20, inside + " has at most twenty fields");
            for (Method method : inside.getDeclaredMethods()) {
                need(!publicNames.contains(method.getName()), method + " has no public one's name");
                need(method.getParameterCount() <= 7, method + " has at most seven parameters");
            }
        }
    }

    private static void sourceText() throws Exception {
        String source = Files.readString(Path.of("src/main/java/BlackBars.java"));
        need(source.chars().allMatch(c -> c < 127), "the source has signs up to 126");
        String code = source.replaceAll("(?s)/\\*.*?\\*/", "").replaceAll("//[^\n]*", "");
        for (String forbidden : FORBIDDEN) {
            need(!java.util.regex.Pattern.compile(forbidden).matcher(code).find(), "no " + forbidden);
        }
    }
}
