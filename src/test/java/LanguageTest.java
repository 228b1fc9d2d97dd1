import java.io.IOException;
import java.lang.reflect.Field;
import java.lang.reflect.Modifier;
import java.nio.file.Files;
import java.nio.file.Path;
import java.util.ArrayList;
import java.util.List;
import java.util.Set;
import java.util.regex.Matcher;
import java.util.regex.Pattern;

/** What can be seen, in the class's text and shape, of the rules of LANGUAGE.md; run in the project's folder. */
public final class LanguageTest {
    private static final Path FILE = Path.of("src/main/java/SlotCore.java");
    private static final Pattern METHOD =
        Pattern.compile("^ +(?:public|private) (?:static )?(?:\\w+ )?\\w+\\(([^)]*)\\).*\\{$");
    private static final int MOST_LINES = 60;
    private static final int MOST_PARAMETERS = 7;
    private static final int MOST_CLASSES = 12;
    private static final int MOST_FIELDS = 20;

    public static void main(String[] args) throws IOException {
        List<String> lines = withoutComments(Files.readAllLines(FILE));
        String text = String.join("\n", lines);
        imports(lines);
        forbidden(text);
        throwsAreOfRule6(text);
        methodsAreShort(lines);
        shape();
        Check.end();
    }

    private static List<String> withoutComments(List<String> all) {
        List<String> kept = new ArrayList<>();
        for (String line : all) {
            String bare = line.strip();
            if (!bare.startsWith("//") && !bare.startsWith("/**")) {
                kept.add(line);
            }
        }
        return kept;
    }

    private static void imports(List<String> lines) {
        for (String line : lines) {
            if (line.startsWith("import") || line.startsWith("package")) {
                yes("rule 4: " + line, line.equals("import java.util.NoSuchElementException;"));
            }
        }
    }

    private static void forbidden(String text) {
        String[] words = {"try", "catch", "finally", "synchronized", "assert", "native", "volatile", "transient",
            "strictfp", "System", "Thread", "Random", "Object", "protected", "double", "float", "null"};
        for (String word : words) {
            yes("no " + word, !Pattern.compile("\\b" + word + "\\b").matcher(text).find());
        }
        for (String sign : new String[] {"->", "::", "\"", "@", "/*", "static {"}) {
            yes("no " + sign, !text.contains(sign));
        }
    }

    private static void throwsAreOfRule6(String text) {
        Set<String> fine = Set.of("NoSuchElementException();", "IllegalArgumentException();");
        Matcher thrown = Pattern.compile("\\bthrow\\b(.*)").matcher(text);
        int found = 0;
        while (thrown.find()) {
            found++;
            String what = thrown.group(1).strip();
            yes("rule 6: throw " + what, what.startsWith("new ") && fine.contains(what.substring(4)));
        }
        yes("rule 6: throws are there", found > 0);
    }

    private static void methodsAreShort(List<String> lines) {
        int methods = 0;
        for (int from = 0; from < lines.size(); from++) {
            Matcher method = METHOD.matcher(lines.get(from));
            if (method.matches()) {
                methods++;
                String name = lines.get(from).strip();
                yes("rule 11, length: " + name, lengthOf(lines, from) <= MOST_LINES);
                yes("rule 11, parameters: " + name, method.group(1).split(",").length <= MOST_PARAMETERS);
            }
        }
        yes("methods are there", methods > SlotCore.class.getDeclaredMethods().length);
    }

    private static int lengthOf(List<String> lines, int from) {
        String indent = lines.get(from).replaceAll("\\S.*", "");
        int to = from;
        while (to < lines.size() && !lines.get(to).equals(indent + "}")) {
            to++;
        }
        return to - from + 1;
    }

    private static void shape() {
        Class<?>[] inside = SlotCore.class.getDeclaredClasses();
        yes("rule 11, classes", inside.length < MOST_CLASSES);
        fields(SlotCore.class);
        for (Class<?> one : inside) {
            yes("rule 1: " + one + " is static", Modifier.isStatic(one.getModifiers()));
            yes("rule 1: " + one + " is not public", (one.getModifiers() & (Modifier.PUBLIC | Modifier.PROTECTED)) == 0);
            fields(one);
        }
    }

    private static void fields(Class<?> one) {
        int own = 0;
        for (Field field : one.getDeclaredFields()) {
            if (Modifier.isStatic(field.getModifiers())) {
                yes("rule 5: " + field + " is final", Modifier.isFinal(field.getModifiers()));
                yes("rule 5: " + field + " is a number", field.getType() == int.class);
            } else {
                own++;
            }
        }
        yes("rule 11, fields of " + one, own <= MOST_FIELDS);
    }

    private static void yes(String what, boolean holds) {
        Check.is(what, holds ? 1 : 0, 1);
    }
}
