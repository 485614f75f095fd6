import java.lang.reflect.Constructor;
import java.lang.reflect.Field;
import java.lang.reflect.Member;
import java.lang.reflect.Method;
import java.lang.reflect.Modifier;
import java.nio.file.Files;
import java.nio.file.Path;
import java.util.ArrayList;
import java.util.List;
import java.util.Set;
import java.util.TreeSet;
import java.util.regex.Matcher;
import java.util.regex.Pattern;

/** The face, and those rules of ../shared/LANGUAGE.md that can be read off the text of the class. */
public final class RulesTest {
    private static final Check check = new Check("RulesTest");
    private static final Set<String> FACE = Set.of("write 1", "wipe 0", "fault 0", "lay 0", "person 2", "sum 1",
            "pass 1", "board 1", "stepOff 1", "die 1", "sail 0", "undo 0", "best 1", "waits 0", "sailings 1",
            "setsFor 1", "oddOnes 0", "tell 2", "forget 0", "liar 0", "age 2", "sums 1", "stays 2", "day 3",
            "keep 0", "back 0", "count 1");

    public static void main(String[] args) throws Exception {
        face();
        nested();
        String source = Files.readString(Path.of("src/main/java/AgesFerry.java"));
        words(source.replaceAll("(?s)/\\*.*?\\*/|//[^\n]*", ""));
        check.end();
    }

    private static void none(String what, List<String> found) {
        check.due(what + " " + found, found.size(), 0);
    }

    private static boolean isHidden(Member member) {
        return Modifier.isPrivate(member.getModifiers()) || member.isSynthetic();
    }

    private static void face() {
        Set<String> methods = new TreeSet<>();
        for (Method method : AgesFerry.class.getDeclaredMethods()) {
            if (!isHidden(method)) {
                boolean plain = method.getReturnType() == int.class && Modifier.isPublic(method.getModifiers());
                methods.add(method.getName() + (plain ? " " : " not public int ") + method.getParameterCount());
            }
        }
        check.due("methods of the face " + methods, methods.equals(FACE) ? 1 : 0, 1);
        Set<String> fields = new TreeSet<>();
        for (Field field : AgesFerry.class.getDeclaredFields()) {
            if (!isHidden(field)) {
                fields.add(field.getName());
            }
        }
        check.due("constants of the face " + fields, fields.equals(Set.of("BAD", "NO", "FULL", "NONE")) ? 1 : 0, 1);
        Constructor<?>[] constructors = AgesFerry.class.getDeclaredConstructors();
        check.due("constructors", constructors.length, 1);
        check.due("of no parameters", constructors[0].getParameterCount(), 0);
        check.due("public", Modifier.isPublic(constructors[0].getModifiers()) ? 1 : 0, 1);
        check.due("final", Modifier.isFinal(AgesFerry.class.getModifiers()) ? 1 : 0, 1);
    }

    private static void nested() {
        List<String> faults = new ArrayList<>();
        Class<?>[] inside = AgesFerry.class.getDeclaredClasses();
        for (Class<?> one : inside) {
            if (!Modifier.isStatic(one.getModifiers()) || Modifier.isPublic(one.getModifiers())) {
                faults.add(one.getName());
            }
            for (Method method : one.getDeclaredMethods()) {
                if (method.getParameterCount() > 7 || FACE.stream().anyMatch(f -> f.startsWith(method.getName() + " "))) {
                    faults.add(one.getName() + "." + method.getName());
                }
            }
            shared(one, faults);
        }
        shared(AgesFerry.class, faults);
        none("classes and methods against the rules", faults);
        check.due("twelve classes at most", inside.length < 12 ? 1 : 0, 1);
    }

    private static void shared(Class<?> one, List<String> faults) {
        int own = 0;
        for (Field field : one.getDeclaredFields()) {
            boolean isStatic = Modifier.isStatic(field.getModifiers());
            own += isStatic ? 0 : 1;
            if (isStatic && !Modifier.isFinal(field.getModifiers())) {
                faults.add(one.getName() + "." + field.getName());
            }
        }
        if (own > 20) {
            faults.add(one.getName() + " has " + own + " fields");
        }
    }

    private static void words(String code) {
        none("words that are ruled out", found(code, "\\b(import|package|throw|try|catch|finally|synchronized|assert"
                + "|instanceof|var|record|protected|volatile|transient|native|System|Object|Thread|hashCode|toString"
                + "|double|float|Iterator|Stream|Random|Exception)\\b"));
        none("lambdas and references to methods", found(code, "[^ =]->|\\w ->|::"));
        none("texts joined by +", found(code, "\"\\s*\\+|\\+\\s*\""));
        none("functions of the library that are ruled out",
                found(code, "\\b(Math|Integer|Long)\\.(?!(compare|max|min|abs|bitCount|floorDiv|floorMod)\\()\\w+"));
        none("signs beyond 126", found(code, "[^\\n -~]"));
        none("loops without an end in sight", found(code, "for \\(;;|while \\(true|;\\s*;"));
        none("long lines", found(code, "(?m)^.{121,}$"));
        none("long methods", longMethods(code));
        none("objects made by a call", madeByCalls(code));
    }

    private static List<String> found(String code, String pattern) {
        List<String> all = new ArrayList<>();
        Matcher matcher = Pattern.compile(pattern).matcher(code);
        while (matcher.find()) {
            all.add(matcher.group());
        }
        return all;
    }

    /** All rows are made with the object and used again: "new" stands in fields and constructors alone. */
    private static List<String> madeByCalls(String code) {
        List<String> all = new ArrayList<>();
        boolean constructor = false;
        for (String line : code.split("\n")) {
            boolean method = line.matches(" {4,8}(\\w+ )*\\w+ ?\\w*\\(.*\\) \\{");
            constructor = method ? line.matches(" +(public )?[A-Z]\\w*\\(.*\\) \\{") : constructor;
            boolean field = line.matches(" +(private )?final [A-Z]\\w* \\w+ = new .*;");
            if (line.matches(".*\\bnew\\b.*") && !constructor && !field) {
                all.add(line.trim());
            }
        }
        return all;
    }

    /** A method ends with a brace as far in as its first line; none may have more than 60 lines. */
    private static List<String> longMethods(String code) {
        List<String> all = new ArrayList<>();
        String[] lines = code.split("\n");
        for (int i = 0; i < lines.length; i++) {
            if (!lines[i].matches(" {4,8}(\\w+ )*\\w+ ?\\w*\\(.*\\) \\{")) {
                continue;
            }
            String end = lines[i].replaceAll("\\S.*", "") + "}";
            int j = i;
            while (j < lines.length && !lines[j].equals(end)) {
                j++;
            }
            if (j - i > 60) {
                all.add(lines[i].trim());
            }
        }
        return all;
    }
}
