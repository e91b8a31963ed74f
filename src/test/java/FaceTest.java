import java.lang.reflect.Modifier;
import java.nio.charset.StandardCharsets;
import java.nio.file.Files;
import java.nio.file.Path;
import java.util.ArrayList;
import java.util.Arrays;
import java.util.List;
import java.util.regex.Matcher;
import java.util.regex.Pattern;
import java.util.stream.Stream;

/**
 * "The public face" of the document (-Ddocument) against the class and its source (-Dsource): every declaration
 * as it stands there, in its order, under the heading that the document says, and no other.
 */
public final class FaceTest {
    private static final Due due = new Due();

    public static void main(String[] args) throws Exception {
        Path path = Path.of(System.getProperty("document"));
        if (!Files.exists(path)) {
            // The class is no worse for it, so this alone fails no run.
            System.out.println("NOTHING COMPARED: the document is not at " + path);
            return;
        }
        String document = Files.readString(path, StandardCharsets.UTF_8);
        String source = Files.readString(Path.of(System.getProperty("source")), StandardCharsets.UTF_8);
        List<String> face = faceOf(document);
        due.is("declarations of the document", face.size(), 1 + 42);
        isSame("declarations", declarationsOf(source), face);
        isSame("declarations of the promises", promisedBy(document), withoutPublic(face));
        isSame("headings", headingsOf(source), headingsIn(document));
        isSame("what can be seen of the class", seenOf(RumourBeds.class), sorted(typesOf(face)));
        due.end();
    }

    private static void isSame(String what, List<String> got, List<String> want) {
        due.holds(what + " are " + want + "; they are " + got, got.equals(want));
    }

    private static List<String> all(String pattern, String text) {
        List<String> found = new ArrayList<>();
        Matcher m = Pattern.compile(pattern).matcher(text);
        while (m.find()) {
            found.add(m.group(1));
        }
        return found;
    }

    private static String section(String document, String title) {
        int at = document.indexOf("## " + title);
        int end = document.indexOf("\n## ", at + 1);
        return document.substring(Math.max(0, at), Math.max(Math.max(0, at), end));
    }

    private static List<String> faceOf(String document) {
        return all("(?m)^ *(public .*?) ?[;{]$", section(document, "The public face"));
    }

    private static List<String> declarationsOf(String source) {
        return all("(?m)^ *((?:public|protected) .*?) ?[;{]$", source);
    }

    /** The constructor and the methods, without the class. */
    private static List<String> withoutPublic(List<String> face) {
        List<String> calls = new ArrayList<>();
        for (String line : face.subList(1, face.size())) {
            calls.add(line.substring("public ".length()));
        }
        return calls;
    }

    private static List<String> promisedBy(String document) {
        return all("## Promise \\d+: .*\\s+`([^`]*)`:", document);
    }

    /** Each as "houses: house houseOf ". */
    private static List<String> headingsIn(String document) {
        List<String> headings = new ArrayList<>();
        Matcher m = Pattern.compile("Ahead of the calls (.*) the interface says: ---- (.*)\\.").matcher(document);
        while (m.find()) {
            headings.add(m.group(2) + ": " + String.join(" ", all("`(\\w+)`", m.group(1))));
        }
        return headings;
    }

    private static List<String> headingsOf(String source) {
        List<String> headings = new ArrayList<>();
        String[] parts = source.split("// ---- ");
        for (String part : Arrays.asList(parts).subList(1, parts.length)) {
            List<String> calls = all("(?m)^    public \\w+ (\\w+)\\(", part);
            if (!calls.isEmpty()) {
                headings.add(part.substring(0, part.indexOf('\n')) + ": " + String.join(" ", calls));
            }
        }
        return headings;
    }

    /** As the compiled class has them: no more can be seen than the declarations tell. */
    private static List<String> seenOf(Class<?> type) {
        Stream<String> members = Stream.of(
            Arrays.stream(type.getDeclaredFields()).filter(f -> !Modifier.isPrivate(f.getModifiers())).map(Object::toString),
            Arrays.stream(type.getDeclaredConstructors()).filter(c -> !Modifier.isPrivate(c.getModifiers())).map(Object::toString),
            Arrays.stream(type.getDeclaredMethods()).filter(m -> !Modifier.isPrivate(m.getModifiers())).map(Object::toString))
            .flatMap(s -> s);
        return sorted(members.map(s -> s.replace("RumourBeds.", "")).toList());
    }

    /** A declaration without the names of its parameters; the first one is the class itself. */
    private static List<String> typesOf(List<String> face) {
        List<String> types = new ArrayList<>();
        for (String line : face.subList(1, face.size())) {
            types.add(line.replaceAll("(int|long) \\w+([,)])", "$1$2").replace(", ", ","));
        }
        return types;
    }

    private static List<String> sorted(List<String> those) {
        return those.stream().sorted().toList();
    }
}
