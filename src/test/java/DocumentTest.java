import java.io.IOException;
import java.lang.reflect.Method;
import java.nio.file.Files;
import java.nio.file.Path;
import java.util.Arrays;
import java.util.LinkedHashMap;
import java.util.Map;
import java.util.regex.Matcher;
import java.util.regex.Pattern;

/**
 * No word of the document is without a test: what the tests bear by Says stands in the section that
 * they are named after, and leaves nothing of it over but what says of no call what it answers.
 */
public final class DocumentTest {
    private static final Path DOCUMENT = Path.of("../shared/DOC.md");
    private static final Class<?>[] TESTS = {TermsTest.class, PromisesTest.class};
    /** The title, and the face, which FaceTest looks at. */
    private static final String[] NO_SECTIONS_OF_ANSWERS = {"", "The public face"};
    private static final String[] SAYS_NO_ANSWER = {
        "A weigh-off of great fruits: growers in turn, fruits weighed or cracked, tilts of the "
                + "scales, appeals, the cut after three days, places, a record, a prize, and a "
                + "board that asks how weights and tilts stand to a number.",
        "what later calls answer is free.",
        "How the state is held inside the object is free, as are the speed of each call, the text "
                + "of toString and the behaviour of equals and hashCode.",
        "Use of one object from several threads at once is not promised to be safe.",
        "and nothing about an object after its 512th call.",
    };

    public static void main(String[] args) throws IOException {
        if (!Files.exists(DOCUMENT)) {
            // Where the document isn't at hand, the tests that bear its words run all the same.
            System.out.println("there is no " + DOCUMENT + " to compare with");
            return;
        }
        Map<String, String> sections = sections(Files.readString(DOCUMENT));
        for (String name : NO_SECTIONS_OF_ANSWERS) {
            sections.remove(name);
        }
        Map<String, char[]> left = new LinkedHashMap<>();
        sections.forEach((name, text) -> left.put(name, text.toCharArray()));
        for (Class<?> tests : TESTS) {
            for (Method method : tests.getDeclaredMethods()) {
                takeOutWhatIsTested(method, sections, left);
            }
        }
        for (String name : sections.keySet()) {
            for (String free : SAYS_NO_ANSWER) {
                takeOut(free, sections.get(name), left.get(name));
            }
            Check.same(name + ": words without a test", "", words(left.get(name)));
        }
        Check.end();
    }

    private static void takeOutWhatIsTested(
            Method method, Map<String, String> sections, Map<String, char[]> left) {
        Says says = method.getAnnotation(Says.class);
        String name = sectionOf(method.getName());
        for (String said : says == null ? new String[0] : says.value()) {
            boolean stands = sections.containsKey(name) && sections.get(name).contains(said);
            Check.holds(method.getName() + ", stands in the document: " + said, true, stands);
            if (stands) {
                takeOut(said, sections.get(name), left.get(name));
            }
        }
    }

    /** From the row alone: the text stays whole, so that it doesn't matter who comes first. */
    private static void takeOut(String said, String text, char[] left) {
        for (int at = text.indexOf(said); at >= 0; at = text.indexOf(said, at + 1)) {
            Arrays.fill(left, at, at + said.length(), ' ');
        }
    }

    private static String words(char[] left) {
        return new String(left).replaceAll("[^\\p{Alnum}]+", " ").trim();
    }

    /** The section that a test is named after, as promise7 is for 'Promise 7: appeal'. */
    private static String sectionOf(String test) {
        Matcher promise = Pattern.compile("promise(\\d+).*").matcher(test);
        if (promise.matches()) {
            return "Promise " + promise.group(1);
        }
        return test.startsWith("whatItIs") ? "What it is"
                : test.startsWith("terms") ? "Terms" : "Not promised";
    }

    /** The text of each section by its heading (a promise's by its number), in one line. */
    private static Map<String, String> sections(String document) {
        Map<String, String> found = new LinkedHashMap<>();
        for (String part : document.split("(?m)^## ")) {
            String[] headingAndText = part.split("\n", 2);
            String name = part.startsWith("# ") ? "" : headingAndText[0].replaceAll(":.*", "");
            String text = headingAndText.length < 2 ? "" : headingAndText[1];
            found.put(name, oneLine(text));
        }
        return found;
    }

    /** Without the signature that a promise begins with and the fences, which say nothing. */
    private static String oneLine(String text) {
        return text.replaceAll("(?m)^```.*$", " ").replaceAll("(?m)^`[^`]*\\)[^`]*`:", " ")
                .replaceAll("\\s+", " ").trim();
    }
}
