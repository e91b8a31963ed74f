import java.lang.reflect.Method;
import java.nio.charset.StandardCharsets;
import java.nio.file.Files;
import java.nio.file.Path;
import java.util.BitSet;
import java.util.Map;
import java.util.TreeMap;
import java.util.regex.Matcher;
import java.util.regex.Pattern;

/**
 * The tests by sentences against the document (its path comes as -Ddocument): what a test says stands there,
 * once, in the promise that it names; and no word of the terms and the promises is left that no test says.
 */
public final class QuotesTest {
    private static final Class<?>[] TESTS = {FindingsTest.class, HousesTest.class, KindsTest.class, RumoursTest.class,
        DayTest.class, InOnTrueTest.class, AheadTest.class, BestTest.class, TextTest.class, SheetsTest.class, ImagesTest.class};
    private static final int PROMISES = 42;

    private static final Due due = new Due();

    public static void main(String[] args) throws Exception {
        Path path = Path.of(System.getProperty("document"));
        if (!Files.exists(path)) {
            // The class is no worse for it, so this alone fails no run.
            System.out.println("NOTHING COMPARED: the document is not at " + path);
            return;
        }
        String document = Files.readString(path, StandardCharsets.UTF_8);
        Map<Integer, String> sections = sectionsOf(document);
        due.is("sections", sections.size(), 2 + PROMISES);
        Map<Integer, BitSet> said = new TreeMap<>();
        for (int section : sections.keySet()) {
            said.put(section, new BitSet());
        }
        for (Class<?> tests : TESTS) {
            for (Method test : Sentences.testsOf(tests)) {
                mark(test, sections, said);
            }
        }
        for (int section : sections.keySet()) {
            String left = unsaid(sections.get(section), said.get(section));
            due.holds("every word of section " + section + " is said by a test, but '" + left + "'", left.isEmpty());
        }
        due.end();
    }

    /** The use, the terms, the promises without the signatures ahead of them; one blank between words. */
    private static Map<Integer, String> sectionsOf(String document) {
        Map<Integer, String> sections = new TreeMap<>();
        for (String part : document.split("(?m)^## ")) {
            String body = part.substring(part.indexOf('\n') + 1);
            Matcher promise = Pattern.compile("Promise (\\d+):").matcher(part);
            if (part.startsWith("What it is")) {
                sections.put(Says.USE, plain(body.substring(Math.max(0, body.indexOf("An object is used")))));
            } else if (part.startsWith("Terms")) {
                sections.put(Says.TERMS, plain(body.replaceAll("(?m)^Ahead of the calls .*$", "").replaceAll("(?m)^```(text)?$", "")));
            } else if (promise.lookingAt()) {
                sections.put(Integer.valueOf(promise.group(1)), plain(body.replaceFirst("`[^`]*`:", "")));
            }
        }
        return sections;
    }

    private static String plain(String text) {
        return text.replaceAll("\\s+", " ").trim();
    }

    private static void mark(Method test, Map<Integer, String> sections, Map<Integer, BitSet> said) {
        Says says = test.getAnnotation(Says.class);
        String section = sections.getOrDefault(says.promise(), "");
        int at = section.indexOf(says.words());
        due.holds(test + ": promise " + says.promise() + " says '" + says.words() + "'", at >= 0);
        due.holds(test + ": promise " + says.promise() + " says '" + says.words() + "' once",
            at == section.lastIndexOf(says.words()));
        if (at >= 0) {
            said.get(says.promise()).set(at, at + says.words().length());
        }
    }

    private static String unsaid(String section, BitSet said) {
        StringBuilder left = new StringBuilder();
        for (int i = 0; i < section.length(); i++) {
            if (!said.get(i) && Character.isLetterOrDigit(section.charAt(i))) {
                left.append(section.charAt(i));
            } else if (left.length() > 0 && left.charAt(left.length() - 1) != ' ') {
                left.append(' ');
            }
        }
        return left.toString().trim();
    }
}
