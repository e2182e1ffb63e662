import java.lang.reflect.Method;
import java.nio.file.Files;
import java.nio.file.Path;
import java.util.HashMap;
import java.util.Map;
import java.util.regex.Matcher;
import java.util.regex.Pattern;

/** The calls that README.md shows: each answers what stands behind it there. */
public final class ReadmeTest {
    private static final Due DUE = new Due("ReadmeTest");
    private static final Pattern CALL = Pattern.compile("room\\.(\\w+)\\(([^)]*)\\); *// (true|false|-?\\d+)\\b.*");
    /** So that a README.md in which no call is found does not pass. */
    private static final int LEAST_SHOWN = 30;

    private ReadmeTest() {
    }

    public static void main(String[] args) throws Exception {
        Map<String, Method> calls = new HashMap<>();
        for (Method method : GhostPane.class.getDeclaredMethods()) {
            calls.put(method.getName(), method);
        }
        GhostPane room = new GhostPane();
        int shown = 0;
        for (String line : Files.readAllLines(Path.of(System.getProperty("readme", "README.md")))) {
            if (line.startsWith("room.")) {
                Matcher call = CALL.matcher(line);
                DUE.is("a call with its answer: " + line, call.matches(), true);
                if (call.matches()) {
                    DUE.is(line, ask(room, calls.get(call.group(1)), call.group(2)), number(call.group(3)));
                    shown++;
                }
            }
        }
        DUE.is("calls shown: " + shown, shown >= LEAST_SHOWN, true);
        DUE.end();
    }

    private static long ask(GhostPane room, Method call, String told) throws Exception {
        String[] words = told.isEmpty() ? new String[0] : told.split(", *");
        Object[] values = new Object[words.length];
        for (int k = 0; k < words.length; k++) {
            boolean so = call.getParameterTypes()[k] == boolean.class;
            values[k] = so ? (Object) Boolean.valueOf(words[k]) : (Object) Integer.decode(words[k]);
        }
        return number(String.valueOf(call.invoke(room, values)));
    }

    private static long number(String answer) {
        if (answer.equals("true") || answer.equals("false")) {
            return answer.equals("true") ? 1 : 0;
        }
        return Long.parseLong(answer);
    }
}
