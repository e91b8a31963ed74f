import java.nio.charset.StandardCharsets;
import java.nio.file.Files;
import java.nio.file.Path;
import java.util.HashSet;
import java.util.Set;
import java.util.regex.Matcher;
import java.util.regex.Pattern;

/** Some rules of LANGUAGE.md that a look at the source can tell; the path comes as -Dsource. */
public final class SourceTest {
    private static final Due due = new Due();

    public static void main(String[] args) throws Exception {
        String source = Files.readString(Path.of(System.getProperty("source")), StandardCharsets.ISO_8859_1);
        String code = source.replaceAll("(?s)/\\*.*?\\*/", " ").replaceAll("//[^\n]*", " ")
            .replaceAll("\"[^\"]*\"", "\"\"").replaceAll("'[^']*'", "' '");
        String[] banned = {"throw", "throws", "try", "catch", "finally", "synchronized", "assert", "package", "protected",
            "import", "yield", "var", "volatile", "transient", "native", "System\\.out", "hashCode", "toString", "->", "::"};
        for (String word : banned) {
            String pattern = Character.isLetter(word.charAt(0)) ? "\\b" + word + "\\b" : word;
            due.is("rule 4, 6: " + word, found(pattern, code), 0);
        }
        due.is("rule 3: signs above 127", found("[^\\x00-\\x7f]", source), 0);
        due.is("rule 5: static fields that aren't final", found("static (?!final)[\\w\\[\\]]+ \\w+\\s*[=;]", code), 0);
        due.is("rule 2: classes inside that aren't static", found("(?<!static final )(?<!public final )class \\w", code), 0);
        namesOfTheFace(code);
        theFace();
        due.end();
    }

    private static int found(String pattern, String code) {
        Matcher m = Pattern.compile(pattern).matcher(code);
        int n = 0;
        while (m.find()) n++;
        return n;
    }

    /** Rule 1: nothing but the face bears a name of the face. */
    private static void namesOfTheFace(String code) {
        Set<String> names = new HashSet<>();
        for (var m : RumourBeds.class.getDeclaredMethods()) {
            if (java.lang.reflect.Modifier.isPublic(m.getModifiers())) names.add(m.getName());
        }
        Matcher m = Pattern.compile("\\n +(private |static |final )*(int|long|boolean|void|String) (\\w+)\\(").matcher(code);
        while (m.find()) {
            due.is("rule 1: " + m.group(3), names.contains(m.group(3)) ? 1 : 0, 0);
        }
    }

    /** Rule 1: the class is public and final, and no other member of it can be seen from outside. */
    private static void theFace() {
        int modifiers = RumourBeds.class.getModifiers();
        due.is("rule 1: final", java.lang.reflect.Modifier.isFinal(modifiers) ? 1 : 0, 1);
        due.is("rule 1: one constructor", RumourBeds.class.getConstructors().length, 1);
        for (var f : RumourBeds.class.getDeclaredFields()) {
            due.is("rule 1: " + f.getName(), java.lang.reflect.Modifier.isPrivate(f.getModifiers()) ? 1 : 0, 1);
        }
        for (var m : RumourBeds.class.getDeclaredMethods()) {
            boolean isSeen = !java.lang.reflect.Modifier.isPrivate(m.getModifiers());
            due.is("rule 1: " + m.getName(), isSeen && !java.lang.reflect.Modifier.isPublic(m.getModifiers()) ? 1 : 0, 0);
        }
    }
}
