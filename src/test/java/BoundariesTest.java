import java.io.IOException;
import java.lang.reflect.Method;
import java.lang.reflect.Modifier;
import java.util.ArrayList;
import java.util.BitSet;
import java.util.Comparator;
import java.util.HashMap;
import java.util.List;
import java.util.Map;
import java.util.regex.Matcher;
import java.util.regex.Pattern;
import java.util.stream.Stream;

/**
 * Each sentence of the document that names a boundary has a test of its own: the methods with a Sentence in these
 * classes. What a Sentence quotes has to stand in its section, and no word that names a boundary may stay unquoted.
 */
public final class BoundariesTest {
    private static final List<Class<?>> CLASSES = List.of(BoundariesOfTerms.class, BoundariesOfChanges.class,
        BoundariesOfQuestions.class, BoundariesOfTexts.class, BoundariesOfStates.class);
    private static final String SECTIONS = "What it is|Terms|Settings|Guests|Pauses|The lexicon|Texts|Promise \\d+";
    private static final Pattern BOUNDARY = Pattern.compile("NO_SUCH|BAD_VALUE|BAD_TEXT|TOO_MANY|NOT_POSSIBLE|NONE"
        + "|\\b\\d+ (to|or) \\d+|at most|up to|at first|without(?!\\()|nobody|\\bnone\\b|no more"
        + "|only if|nothing|empty|\\balso\\b|too early|oldest|latest|above|longer|shorter|lowest|highest"
        + "|left out|otherwise|the first|This is a change"
        + "|overwrites|keeps it|is over|goes? on|for good|somebody else|rounded|leading|everything|\\bso far|or more"
        + "|there have been|by itself|never|another|some left|bit masks|numbered");

    private static final Pattern ERROR = Pattern.compile("(NO_SUCH|BAD_VALUE|BAD_TEXT|TOO_MANY|NOT_POSSIBLE) if ");

    public static void main(String[] args) throws IOException, ReflectiveOperationException {
        Map<String, String> sections = Document.sections();
        Map<String, BitSet> quoted = new HashMap<>();
        List<Method> tests = tests();
        for (Method test : tests) {
            Sentence sentence = test.getAnnotation(Sentence.class);
            Due.about("");
            quote(sentence, sections.getOrDefault(sentence.of(), ""), quoted);
            Due.about(sentence.of() + ", \"" + sentence.says() + "\", " + test.getName() + ": ");
            int before = Due.checked();
            test.invoke(null);
            Due.holds("something is looked at", Due.checked() > before);
        }
        Due.about("");
        for (Map.Entry<String, String> section : sections.entrySet()) {
            if (section.getKey().matches(SECTIONS)) {
                everyBoundaryIsQuoted(section.getKey(), section.getValue(), quoted);
                orderIsTested(section.getKey(), section.getValue(), tests);
            }
        }
        Due.is("sections of the document", sections.keySet().stream().filter(s -> s.matches(SECTIONS)).count(), 7 + 27);
        Due.close();
    }

    private static List<Method> tests() {
        List<Method> tests = new ArrayList<>();
        for (Class<?> one : CLASSES) {
            Stream.of(one.getDeclaredMethods()).filter(m -> m.isAnnotationPresent(Sentence.class))
                .sorted(Comparator.comparing(Method::getName)).forEach(tests::add);
            Stream.of(one.getDeclaredMethods()).filter(BoundariesTest::isForgotten)
                .forEach(m -> Due.holds(m + " has a Sentence, or is private", false));
        }
        return tests;
    }

    private static boolean isForgotten(Method method) {
        return !Modifier.isPrivate(method.getModifiers()) && !method.isSynthetic() && method.getParameterCount() == 0
            && !method.isAnnotationPresent(Sentence.class);
    }

    /** A test of the order of errors is none of the errors themselves: it quotes nothing that has no test besides. */
    private static void quote(Sentence sentence, String section, Map<String, BitSet> quoted) {
        int from = section.indexOf(sentence.says());
        Due.holds("'" + sentence.says() + "' stands in " + sentence.of(), from >= 0);
        while (from >= 0 && !sentence.order()) {
            int to = from + sentence.says().length();
            quoted.computeIfAbsent(sentence.of(), name -> new BitSet()).set(from, to);
            from = section.indexOf(sentence.says(), to);
        }
    }

    /** What a promise tells of two errors or more has a test of their order, which quotes them all. */
    private static void orderIsTested(String name, String section, List<Method> tests) {
        int errors = errorsIn(section);
        boolean has = tests.stream().map(m -> m.getAnnotation(Sentence.class))
            .anyMatch(s -> s.order() && s.of().equals(name) && errorsIn(s.says()) == errors);
        Due.holds("a test is about the order of the errors of " + name, errors < 2 || has);
    }

    private static int errorsIn(String text) {
        return (int) ERROR.matcher(text).results().count();
    }

    private static void everyBoundaryIsQuoted(String name, String section, Map<String, BitSet> quoted) {
        Matcher boundary = BOUNDARY.matcher(section);
        while (boundary.find()) {
            int from = boundary.start();
            boolean has = quoted.getOrDefault(name, new BitSet()).get(from);
            String around = section.substring(Math.max(0, from - 40), Math.min(section.length(), from + 60));
            Due.holds("a test is about '" + around + "' in " + name, has);
        }
    }
}
