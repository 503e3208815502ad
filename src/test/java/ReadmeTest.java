import java.lang.reflect.Method;
import java.lang.reflect.Modifier;
import java.nio.file.Files;
import java.nio.file.Path;
import java.util.HashMap;
import java.util.Map;
import java.util.TreeSet;
import java.util.regex.Matcher;
import java.util.regex.Pattern;

/** The example of README.md, line by line: each call answers the number behind its // there. */
public final class ReadmeTest {
    private static final Pattern CALL = Pattern.compile("(?:int (\\w+) = )?x\\.(\\w+)\\((.*?)\\);\\s*// (-?\\d+).*");
    private static final Sheet s = new Sheet();

    private final AddressTerms x = new AddressTerms();
    private final Map<String, Long> named = new HashMap<>();
    private final TreeSet<String> used = new TreeSet<>();

    public static void main(String[] args) throws Exception {
        new ReadmeTest().go();
        s.end();
    }

    private void go() throws Exception {
        TreeSet<String> face = new TreeSet<>();
        for (Method method : AddressTerms.class.getDeclaredMethods()) {
            if (Modifier.isPublic(method.getModifiers())) {
                face.add(method.getName());
            }
        }
        TreeSet<String> table = new TreeSet<>();
        for (String line : Files.readAllLines(Path.of("README.md"))) {
            Matcher call = CALL.matcher(line);
            if (call.matches()) {
                callOf(line, call.group(1), call.group(2), call.group(3), Long.parseLong(call.group(4)));
            } else {
                s.due("a line that is no call with an answer: " + line, line.matches("(int .*)?x\\..*") ? 1 : 0, 0);
            }
            if (line.startsWith("| `")) {
                table.add(line.substring(3, line.indexOf('(')));
            }
        }
        s.due("the calls of the example", used.toString(), face.toString());
        s.due("the calls of the table", table.toString(), face.toString());
    }

    private long number(String word) {
        if (named.containsKey(word)) {
            return named.get(word);
        }
        return Long.decode(word.replace("L", ""));
    }

    private void callOf(String line, String name, String method, String words, long want) throws Exception {
        String[] given = words.isEmpty() ? new String[0] : words.split(", ");
        for (Method candidate : AddressTerms.class.getDeclaredMethods()) {
            if (Modifier.isPublic(candidate.getModifiers()) && candidate.getName().equals(method)) {
                Object[] arguments = new Object[given.length];
                for (int i = 0; i < given.length; i++) {
                    long value = number(given[i]);
                    if (candidate.getParameterTypes()[i] == long.class) {
                        arguments[i] = value;
                    } else {
                        arguments[i] = (int) value;
                    }
                }
                int got = (int) candidate.invoke(x, arguments);
                s.due(line, got, want);
                named.put(name, (long) got);
                used.add(method);
            }
        }
    }
}
