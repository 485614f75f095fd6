import java.lang.reflect.Method;
import java.lang.reflect.Modifier;
import java.nio.file.Files;
import java.nio.file.Path;
import java.util.HashSet;
import java.util.Set;
import java.util.regex.Matcher;
import java.util.regex.Pattern;

/** The example of README.md, call by call, against what stands behind each call; and that no call is left out. */
public final class ReadmeTest {
    private static final Pattern CALL = Pattern.compile("ferry\\.(\\w+)\\(([-\\d, ]*)\\); +// (-?\\d+)(:.*)?");
    private static final Pattern TEXT = Pattern.compile("String text = \"(.*)\";");
    /** The lines that are no calls with an answer; any other one would be passed over unseen. */
    private static final Set<String> FRAME = Set.of(
            "AgesFerry ferry = new AgesFerry();      // the first quay of the document is laid",
            "for (int i = 0; i < text.length(); i++) {",
            "ferry.write(text.charAt(i));        // 1, 2, ..: how long the text is", "}");

    private static final Check check = new Check("ReadmeTest");
    private static final AgesFerry ferry = new AgesFerry();
    private static final Set<String> called = new HashSet<>(Set.of("write"));

    public static void main(String[] args) throws Exception {
        String readme = Files.readString(Path.of("README.md"));
        for (String line : example(readme).split("\n")) {
            follow(line.trim());
        }
        for (Method method : AgesFerry.class.getDeclaredMethods()) {
            if (Modifier.isPublic(method.getModifiers())) {
                String name = method.getName();
                check.due(name + " in the example", called.contains(name) ? 1 : 0, 1);
                check.due(name + " in the table", readme.contains("`" + name + "(") ? 1 : 0, 1);
            }
        }
        constants(readme);
        check.end();
    }

    private static String example(String readme) {
        int start = readme.indexOf("```java\n");
        int end = readme.indexOf("\n```", start + 1);
        check.due("an example in README.md", start >= 0 && end > start ? 1 : 0, 1);
        return start >= 0 && end > start ? readme.substring(start + 8, end) : "";
    }

    private static void follow(String line) throws Exception {
        Matcher call = CALL.matcher(line);
        Matcher text = TEXT.matcher(line);
        if (call.matches()) {
            check.due(line, answer(call.group(1), call.group(2)), Integer.parseInt(call.group(3)));
        } else if (text.matches()) {
            String letters = text.group(1);
            for (int i = 0; i < letters.length(); i++) {
                check.due("write", ferry.write(letters.charAt(i)), i + 1);
            }
        } else {
            boolean known = line.isEmpty() || line.startsWith("//") || FRAME.contains(line);
            check.due("a line that is understood: " + line, known ? 1 : 0, 1);
        }
    }

    private static int answer(String name, String numbers) throws Exception {
        String[] parts = numbers.isEmpty() ? new String[0] : numbers.split(", ");
        Class<?>[] types = new Class<?>[parts.length];
        Object[] values = new Object[parts.length];
        for (int i = 0; i < parts.length; i++) {
            types[i] = int.class;
            values[i] = Integer.valueOf(parts[i]);
        }
        called.add(name);
        return (Integer) AgesFerry.class.getMethod(name, types).invoke(ferry, values);
    }

    private static void constants(String readme) throws Exception {
        for (String name : new String[] {"BAD", "NO", "FULL", "NONE"}) {
            String row = "| `" + name + "` | " + AgesFerry.class.getField(name).getInt(null) + " |";
            check.due(row, readme.contains(row) ? 1 : 0, 1);
        }
    }
}
