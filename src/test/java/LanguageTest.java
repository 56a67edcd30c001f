import java.io.IOException;
import java.lang.reflect.Constructor;
import java.lang.reflect.Field;
import java.lang.reflect.Method;
import java.lang.reflect.Modifier;
import java.nio.charset.StandardCharsets;
import java.nio.file.Files;
import java.nio.file.Path;
import java.util.ArrayList;
import java.util.Arrays;
import java.util.List;
import java.util.Set;
import java.util.TreeSet;
import java.util.regex.Matcher;
import java.util.regex.Pattern;
import java.util.stream.Collectors;

/** The public face as the document prints it, and what of ../shared/LANGUAGE.md can be seen from outside. */
public final class LanguageTest {
    private static final String SOURCE = "src/main/java/PauseLexicons.java";
    private static final String[] METHODS = {
        "int set(int,int)", "int guest(int,int)", "int leave(int)", "int move(int,int)", "int pause(int)",
        "int close(int)", "int word(int)", "int cough(int)", "int pass(int)", "int of(int,int)", "int table(int,int)",
        "int meaning(int,int)", "int end(int,int)", "int count(int)", "int wouldMean(int,int)", "int turnsIn(int)",
        "int lender(int)", "int without(int)", "int usual()", "int put(long)", "int wipe()", "int fault()",
        "int carryOut()", "int undo()", "int save(int)", "int restore(int)"
    };
    private static final String[] CONSTANTS = {
        "NO_SUCH=-1", "BAD_VALUE=-2", "BAD_TEXT=-3", "TOO_MANY=-4", "NOT_POSSIBLE=-5", "NONE=-6",
        "SHORT=0", "STEP=1", "LEND=2", "SHAME=3"
    };
    // Whole words that the rules leave out; also all of the library that this program has no need for.
    private static final String[] LEFT_OUT = {
        "throw", "throws", "try", "catch", "finally", "synchronized", "assert", "import", "package", "record", "var",
        "Object", "Exception", "Thread", "Runtime", "equals", "hashCode", "toString", "protected", "volatile", "native",
        "instanceof", "getClass", "currentTimeMillis", "nanoTime", "random"
    };
    private static final Set<String> LIBRARY = Set.of("System.arraycopy", "Math.max", "Math.min", "Integer.bitCount");

    public static void main(String[] args) throws IOException, IllegalAccessException {
        face();
        classesInside();
        source(new String(Files.readAllBytes(Path.of(SOURCE)), StandardCharsets.ISO_8859_1));
        Due.close();
    }

    private static void face() throws IllegalAccessException {
        Class<?> room = PauseLexicons.class;
        Due.holds("public final", Modifier.isPublic(room.getModifiers()) && Modifier.isFinal(room.getModifiers()));
        Constructor<?>[] constructors = room.getDeclaredConstructors();
        Due.holds("one public constructor without parameters", constructors.length == 1
            && Modifier.isPublic(constructors[0].getModifiers()) && constructors[0].getParameterCount() == 0);
        Set<String> methods = new TreeSet<>();
        for (Method method : room.getDeclaredMethods()) {
            if (!Modifier.isPrivate(method.getModifiers())) {
                Due.is(method + " is public alone", method.getModifiers(), Modifier.PUBLIC);
                methods.add(method.getReturnType() + " " + method.getName() + Arrays.stream(method.getParameterTypes())
                    .map(Class::getName).collect(Collectors.joining(",", "(", ")")));
            }
        }
        Due.holds("the public methods are " + methods, methods.equals(new TreeSet<>(Arrays.asList(METHODS))));
        Set<String> constants = new TreeSet<>();
        for (Field field : room.getDeclaredFields()) {
            if (!Modifier.isPrivate(field.getModifiers())) {
                Due.is(field + " is a constant", field.getModifiers(), Modifier.PUBLIC | Modifier.STATIC | Modifier.FINAL);
                Due.holds(field + " is an int", field.getType() == int.class);
                constants.add(field.getName() + "=" + field.getInt(null));
            }
        }
        Due.holds("the constants are " + constants, constants.equals(new TreeSet<>(Arrays.asList(CONSTANTS))));
    }

    private static void classesInside() {
        Set<String> publicNames = Arrays.stream(PauseLexicons.class.getDeclaredMethods())
            .filter(m -> Modifier.isPublic(m.getModifiers())).map(Method::getName).collect(Collectors.toSet());
        List<Class<?>> all = new ArrayList<>(List.of(PauseLexicons.class.getDeclaredClasses()));
        for (Class<?> inside : all) {
            Due.holds("1, 2: " + inside + " is static, and not for others", Modifier.isStatic(inside.getModifiers())
                && (inside.getModifiers() & (Modifier.PUBLIC | Modifier.PROTECTED)) == 0);
        }
        all.add(PauseLexicons.class);
        Due.holds("11: some twelve classes", all.size() <= 12);
        for (Class<?> one : all) {
            int fields = 0;
            for (Field field : one.getDeclaredFields()) {
                boolean isStatic = Modifier.isStatic(field.getModifiers());
                Due.holds("5: " + field + " is final", !isStatic || Modifier.isFinal(field.getModifiers()));
                fields += isStatic ? 0 : 1;
            }
            Due.holds("11: some twenty fields in " + one, fields <= 20);
            for (Method method : one.getDeclaredMethods()) {
                boolean isPublic = Modifier.isPublic(method.getModifiers());
                Due.holds("1: the name of " + method, isPublic || !publicNames.contains(method.getName()));
                Due.holds("11: parameters of " + method, method.getParameterCount() <= 7);
            }
        }
    }

    private static void source(String text) {
        Due.holds("ASCII alone", text.chars().allMatch(c -> c == '\n' || c >= 32 && c < 127));
        String code = text.replaceAll("//[^\n]*", "").replaceAll("(?s)/\\*.*?\\*/", "").replaceAll("'[^']'", "0");
        for (String word : LEFT_OUT) {
            Due.holds("6: no " + word, !Pattern.compile("\\b" + word + "\\b").matcher(code).find());
        }
        Due.holds("2: no lambda, no method reference", !code.contains("->") && !code.contains("::"));
        Due.holds("no texts", !code.contains("\""));
        Due.holds("no division, so none by 0", !code.contains("/") && !code.contains("%"));
        Matcher calls = Pattern.compile("\\b([A-Z][a-z]\\w*\\.[a-z]\\w*)\\(").matcher(code);
        while (calls.find()) {
            Due.holds("4: " + calls.group(1), LIBRARY.contains(calls.group(1)));
        }
        makesNothingInCalls(code);
        methodsAreShort(text);
    }

    /** All rows are made with the object: no call makes any. */
    private static void makesNothingInCalls(String code) {
        for (String line : code.split("\n")) {
            boolean field = line.matches("\\s+(private )?(final )?[A-Za-z]+(\\[\\])? \\w+ = .*");
            boolean history = line.strip().equals("states[i] = new Room();");
            boolean makes = line.contains("new ") || line.contains("clone()");
            Due.holds("12: made with the object: " + line.strip(), !makes || field || history);
        }
    }

    private static void methodsAreShort(String text) {
        int begun = 0;
        int number = 0;
        for (String line : text.split("\n")) {
            number++;
            Due.holds("line " + number + " is short", line.length() <= 120);
            if (line.matches(" {4,8}\\S.*\\) \\{")) {
                begun = number;
            }
            if (line.matches(" {4,8}\\}") && begun > 0) {
                Due.holds("11: the method at line " + begun + " is short", number - begun <= 60);
                begun = 0;
            }
        }
    }
}
