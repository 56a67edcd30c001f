import java.io.IOException;
import java.lang.reflect.InvocationTargetException;
import java.lang.reflect.Method;
import java.nio.charset.StandardCharsets;
import java.nio.file.Files;
import java.nio.file.Path;
import java.util.Arrays;
import java.util.LinkedHashMap;
import java.util.List;
import java.util.Map;
import java.util.Set;
import java.util.TreeSet;
import java.util.function.IntUnaryOperator;
import java.util.regex.MatchResult;
import java.util.regex.Matcher;
import java.util.regex.Pattern;
import java.util.stream.Collectors;
import java.util.stream.Stream;

/** What README.md says of the class and of its tests: it has to hold, and nothing may be left out. */
public final class ReadmeTest {
    private static final Path TESTS = Path.of("src/test/java");
    private static final Pattern LINE_OF_EXAMPLE = Pattern.compile("(?m)^room\\.(\\w+)\\((.*?)\\); +// ([-\\w]+): .*$");
    private static final Pattern SIGNATURE = Pattern.compile("`int (\\w+)\\(([^)]*)\\)`");
    private static final Pattern ERROR = Pattern.compile("\\b(NO_SUCH|BAD_VALUE|BAD_TEXT|TOO_MANY|NOT_POSSIBLE) if ");
    private static final Pattern CONSTANT = Pattern.compile("\\b([A-Z_]+) = (-?\\d+)");
    private static final Pattern SETTING = Pattern.compile("([A-Z]+) \\((\\d+ to \\d+; \\d+)\\)");

    public static void main(String[] args) throws IOException, ReflectiveOperationException {
        String page = read(Path.of("README.md"));
        Map<String, String> document = Document.sections();
        exampleHolds(page);
        callsAreTold(page, document);
        constantsAreTold(page, document);
        whatsAreTold(page);
        classesAreTold(page);
        testsAreTold(page);
        Due.close();
    }

    private static String read(Path file) throws IOException {
        return new String(Files.readAllBytes(file), StandardCharsets.UTF_8);
    }

    private static List<MatchResult> all(Pattern pattern, String text) {
        return pattern.matcher(text).results().toList();
    }

    // ---- the example

    private static void exampleHolds(String page) throws ReflectiveOperationException {
        PauseLexicons room = new PauseLexicons();
        List<MatchResult> calls = all(LINE_OF_EXAMPLE, page);
        for (MatchResult call : calls) {
            Due.is("example: " + call.group(), answer(room, call.group(1), call.group(2)), value(call.group(3)));
        }
        Due.is("lines of the example that are read", calls.size(), all(Pattern.compile("(?m)^room\\."), page).size());
        Due.holds("there is an example", calls.size() > 10);
    }

    private static int answer(PauseLexicons room, String name, String arguments) throws ReflectiveOperationException {
        String[] parts = arguments.isEmpty() ? new String[0] : arguments.split(", ");
        for (Method method : PauseLexicons.class.getMethods()) {
            if (method.getName().equals(name) && method.getParameterCount() == parts.length) {
                Object[] values = new Object[parts.length];
                for (int i = 0; i < parts.length; i++) {
                    long value = sum(parts[i]);
                    values[i] = method.getParameterTypes()[i] == long.class ? (Object) value : (Object) (int) value;
                }
                return answer(room, method, values);
            }
        }
        throw new IllegalArgumentException("no method " + name);
    }

    private static int answer(PauseLexicons room, Method method, Object[] values) throws ReflectiveOperationException {
        try {
            return (int) method.invoke(room, values);
        } catch (InvocationTargetException thrown) {
            throw new IllegalStateException(method + " has thrown", thrown);
        }
    }

    private static long sum(String terms) throws ReflectiveOperationException {
        long sum = 0;
        for (String term : terms.split(" \\+ ")) {
            sum += value(term.replace("PauseLexicons.", ""));
        }
        return sum;
    }

    private static long value(String word) throws ReflectiveOperationException {
        if (word.matches("[A-Z_]+")) {
            return PauseLexicons.class.getField(word).getInt(null);
        }
        return Long.decode(word.replaceFirst("L$", ""));
    }

    // ---- the calls, with the names of their arguments and the order of their errors, as the document tells them

    private static void callsAreTold(String page, Map<String, String> document) {
        Map<String, String> due = new LinkedHashMap<>();
        for (Map.Entry<String, String> section : document.entrySet()) {
            Matcher signature = SIGNATURE.matcher(section.getValue());
            if (section.getKey().startsWith("Promise ") && signature.find()) {
                String names = signature.group(2).replaceAll("\\b(int|long) ", "");
                due.put(signature.group(1) + "(" + names + ")", errors(section.getValue()));
            }
        }
        Due.is("calls of the document", due.size(), 26);
        Map<String, String> told = new LinkedHashMap<>();
        for (MatchResult row : all(Pattern.compile("(?m)^\\| `(\\w+\\(.*?\\))` \\| .+ \\| .+ \\| (.+) \\|$"), page)) {
            told.put(row.group(1), row.group(2));
        }
        for (Map.Entry<String, String> call : due.entrySet()) {
            Due.holds(call.getKey() + " is told with " + call.getValue() + ", not with " + told.get(call.getKey()),
                call.getValue().equals(told.get(call.getKey())));
        }
        Due.holds("the calls in the order of the document", List.copyOf(told.keySet()).equals(List.copyOf(due.keySet())));
    }

    private static String errors(String promise) {
        String errors = all(ERROR, promise).stream().map(e -> e.group(1)).collect(Collectors.joining(", "));
        return errors.isEmpty() ? "none" : errors;
    }

    // ---- codes, settings, and what can be looked at

    private static void constantsAreTold(String page, Map<String, String> document) throws ReflectiveOperationException {
        List<MatchResult> constants = all(CONSTANT, document.get("Terms") + document.get("Texts"));
        Due.is("constants of the document", constants.size(), 10);
        for (MatchResult constant : constants) {
            String row = "\n| `" + constant.group(1) + "` | " + constant.group(2) + " | ";
            Due.holds("README.md tells" + row, page.contains(row));
            Due.is(constant.group(1), PauseLexicons.class.getField(constant.group(1)).getInt(null),
                Integer.parseInt(constant.group(2)));
        }
        List<MatchResult> settings = all(SETTING, document.get("Settings"));
        Due.is("settings of the document", settings.size(), 4);
        for (MatchResult setting : settings) {
            String row = "\n\\| `" + setting.group(1) + "` \\| \\d \\| " + setting.group(2) + " \\| ";
            Due.holds("README.md tells" + row, Pattern.compile(row).matcher(page).find());
        }
    }

    private static void whatsAreTold(String page) {
        PauseLexicons room = Rooms.evening();
        whatIsTold(page, "of", what -> room.of(0, what));
        whatIsTold(page, "table", what -> room.table(0, what));
        whatIsTold(page, "meaning", what -> room.meaning(1, what));
        whatIsTold(page, "end", what -> room.end(0, what));
        whatIsTold(page, "count", room::count);
    }

    /** The numbers in the row of a call are those that it does not answer with BAD_VALUE. */
    private static void whatIsTold(String page, String call, IntUnaryOperator asked) {
        Matcher row = Pattern.compile("(?m)^\\| `" + call + "` \\| (.*) \\|$").matcher(page);
        Due.holds("a row tells what " + call + " can be asked for", row.find());
        String what = row.group(1).replaceAll("\\(.*?\\)", "").replace("9 to 12", "9, 10, 11, 12");
        List<Integer> numbers = all(Pattern.compile("(?:^|, )(\\d+)\\b"), what).stream()
            .map(n -> Integer.valueOf(n.group(1))).toList();
        for (int number = 0; number < 20; number++) {
            Due.holds(call + " is told with " + number + " if it can be asked for it",
                numbers.contains(number) == (asked.applyAsInt(number) != Codes.BAD_VALUE));
        }
    }

    // ---- the classes, and the tests

    private static void classesAreTold(String page) {
        String built = page.substring(page.indexOf("## How it is built"));
        for (Class<?> inside : PauseLexicons.class.getDeclaredClasses()) {
            Due.holds(inside.getSimpleName() + " is told", built.contains("`" + inside.getSimpleName() + "`"));
        }
    }

    private static void testsAreTold(String page) throws IOException {
        Set<String> told = all(Pattern.compile("(?m)^\\| `(\\w+Test)` \\| "), page).stream().map(t -> t.group(1))
            .collect(Collectors.toCollection(TreeSet::new));
        Set<String> files;
        try (Stream<Path> paths = Files.list(TESTS)) {
            files = paths.map(p -> p.getFileName().toString().replaceFirst("\\.java$", ""))
                .collect(Collectors.toCollection(TreeSet::new));
        }
        Set<String> tests = files.stream().filter(f -> f.endsWith("Test")).collect(Collectors.toCollection(TreeSet::new));
        Due.holds("the tests are " + tests + ", told are " + told, told.equals(tests));
        String aboutTests = page.substring(page.indexOf("## Tests"), page.indexOf("## How it is built"));
        for (String file : files) {
            boolean group = file.startsWith("BoundariesOf");
            Due.holds(file + " is told", aboutTests.contains(group ? "`BoundariesOf..`" : file));
        }
        Due.holds("the command that runs the tests is told", Arrays.asList(page.split("\n")).contains("bash .ci/run"));
        Due.holds("and can be run", Files.isExecutable(Path.of(".ci/run")));
    }
}
