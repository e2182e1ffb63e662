import java.lang.reflect.Field;
import java.lang.reflect.Method;
import java.lang.reflect.Modifier;
import java.nio.file.Files;
import java.nio.file.Path;
import java.util.HashSet;
import java.util.List;
import java.util.Set;
import java.util.regex.Matcher;
import java.util.regex.Pattern;

/** Rules of LANGUAGE.md that a look at the class and at its source can tell. */
public final class LanguageTest {
    private static final Due DUE = new Due("LanguageTest");
    private static final String[] FACE = {
        "int feed(int, int, int, int, int)", "boolean end(int)", "boolean pane(int, int, int, int)",
        "boolean board(int, int, int, int)", "boolean heights(int, int, int)", "boolean seat(int, int, int)",
        "boolean wall(int, int, int, int, int, boolean)", "boolean thing(int, int, int, int, int)", "boolean gone(int, int)",
        "long of(int, int, int)", "int sees(int, int, int)", "int where(int, int, int)", "int blocks(int, int, int, int)",
        "int shows(int, int)", "int black()", "int walk()", "int fault(int)", "int count(int, int)", "int has(int, int)",
        "int counts(int)", "int house()", "int grid(int, int, int, int, int)", "int tried(int)", "int best()",
        "boolean take(int)", "int joins(int, int)", "int join(int)", "int report(int, int, boolean)", "int void_(int)",
        "int quarrels(int, int)", "int likely(int)", "int since()", "int all(int)",
    };
    private static final String[] RULED_OUT = {
        "throw", "try", "catch", "finally", "synchronized", "assert", "import", "package", "protected", "native", "volatile",
        "transient", "strictfp", "var", "instanceof", "Integer", "Object", "System", "Thread", "Random", "hashCode", "toString",
    };

    public static void main(String[] args) throws Exception {
        face();
        classes();
        source(Path.of(System.getProperty("program", "src/main/java/GhostPane.java")));
        DUE.end();
    }

    private static String signature(Method method) {
        StringBuilder text = new StringBuilder(method.getReturnType().getSimpleName()).append(' ').append(method.getName()).append('(');
        for (int k = 0; k < method.getParameterCount(); k++) {
            text.append(k == 0 ? "" : ", ").append(method.getParameterTypes()[k].getSimpleName());
        }
        return text.append(')').toString();
    }

    private static void face() throws Exception {
        Set<String> face = new HashSet<>(List.of(FACE));
        int found = 0;
        for (Method method : GhostPane.class.getDeclaredMethods()) {
            boolean isPublic = Modifier.isPublic(method.getModifiers());
            DUE.is("of the face, or private: " + signature(method), isPublic, face.contains(signature(method)));
            DUE.is("private: " + signature(method), isPublic || Modifier.isPrivate(method.getModifiers()), true);
            found += isPublic ? 1 : 0;
        }
        DUE.is("methods of the face", found, FACE.length);
        DUE.is("constructors", GhostPane.class.getDeclaredConstructors().length, 1);
        DUE.is("public final", GhostPane.class.getModifiers(), Modifier.PUBLIC | Modifier.FINAL);
        for (Field field : GhostPane.class.getDeclaredFields()) {
            boolean none = field.getName().equals("NONE");
            DUE.is("private: " + field.getName(), Modifier.isPrivate(field.getModifiers()), !none);
        }
        DUE.is("NONE", GhostPane.class.getField("NONE").getInt(null), -1);
    }

    private static void classes() {
        Class<?>[] inside = GhostPane.class.getDeclaredClasses();
        DUE.is("some twelve classes", inside.length + 1 <= 12, true);
        fields(GhostPane.class);
        for (Class<?> one : inside) {
            DUE.is("static: " + one, Modifier.isStatic(one.getModifiers()), true);
            DUE.is("not public: " + one, Modifier.isPublic(one.getModifiers()), false);
            fields(one);
            for (Method method : one.getDeclaredMethods()) {
                DUE.is("seven parameters: " + method, method.getParameterCount() <= 7, true);
                for (String call : FACE) {
                    DUE.is("named as one of the face: " + method, call.contains(" " + method.getName() + "("), false);
                }
            }
        }
    }

    private static void fields(Class<?> one) {
        int own = 0;
        for (Field field : one.getDeclaredFields()) {
            if (Modifier.isStatic(field.getModifiers())) {
                DUE.is("final: " + field, Modifier.isFinal(field.getModifiers()), true);
                DUE.is("a constant number: " + field, field.getType() == int.class || field.getType() == long.class, true);
            } else {
                own++;
            }
        }
        DUE.is("some twenty fields: " + one, own <= 20, true);
    }

    private static void source(Path path) throws Exception {
        String text = Files.readString(path);
        DUE.is("signs of the text", text.chars().allMatch(c -> c < 127), true);
        String bare = text.replaceAll("(?s)/\\*.*?\\*/", "").replaceAll("//[^\n]*", "").replaceAll("\"[^\"\n]*\"", "\"\"");
        for (String word : RULED_OUT) {
            DUE.is("ruled out: " + word, Pattern.compile("\\b" + word + "\\b").matcher(bare).find(), false);
        }
        DUE.is("no lambda", bare.contains("->") || bare.contains("::"), false);
        Matcher methods = Pattern.compile("(?m)^( +)[^\n;=]*\\) \\{\n(?s:.*?)^\\1\\}\n").matcher(bare);
        int longest = 0;
        while (methods.find()) {
            longest = Math.max(longest, (int) methods.group().lines().count());
        }
        DUE.is("some sixty lines a method, not " + longest, longest > 10 && longest <= 60, true);
        calls(bare);
    }

    /** What is made after the constructors would be counted call by call: nothing is. */
    private static void calls(String bare) {
        Matcher made = Pattern.compile("(?m)^ *(.*)\\bnew \\w+").matcher(bare);
        while (made.find()) {
            String line = made.group(1);
            boolean atStart = line.startsWith("final ") || line.startsWith("private final ") || line.matches("\\w+ = ")
                || line.matches("(open|figures)\\[k\\] = ");
            DUE.is("made by a constructor: " + made.group().trim(), atStart, true);
        }
    }
}
