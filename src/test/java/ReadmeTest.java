import java.lang.reflect.Method;
import java.lang.reflect.Modifier;
import java.nio.file.Files;
import java.nio.file.Path;
import java.util.HashMap;
import java.util.Map;
import java.util.TreeMap;
import java.util.TreeSet;
import java.util.regex.Matcher;
import java.util.regex.Pattern;

/** The example of README.md, line by line: each call answers the number behind its // there. */
public final class ReadmeTest {
    private static final Pattern CALL = Pattern.compile("(?:int (\\w+) = )?x\\.(\\w+)\\((.*?)\\);\\s*// (-?\\d+).*");
    private static final Sheet s = new Sheet();

    private final AddressTerms x = new AddressTerms();
    private final Map<String, Long> named = new HashMap<>();
    private final TreeSet<String> used = new TreeSet<>();

    public static void main(String[] args) throws Exception {
        new ReadmeTest().go();
        s.end();
    }

    private void go() throws Exception {
        TreeMap<String, Method> face = face();
        TreeSet<String> table = new TreeSet<>();
        for (String line : Files.readAllLines(Path.of("README.md"))) {
            Matcher call = CALL.matcher(line);
            if (call.matches() && face.containsKey(call.group(2))) {
                int got = answer(face.get(call.group(2)), call.group(3));
                s.due(line, got, Long.parseLong(call.group(4)));
                named.put(call.group(1), (long) got);
                used.add(call.group(2));
            } else {
                s.due("a call without an answer: " + line, line.matches("(int .*)?x\\..*") ? 1 : 0, 0);
            }
            if (line.startsWith("| `")) {
                table.add(line.substring(3, line.indexOf('(')));
            }
        }
        s.due("the calls of the example", used.toString(), face.keySet().toString());
        s.due("the calls of the table", table.toString(), face.keySet().toString());
    }

    private static TreeMap<String, Method> face() {
        TreeMap<String, Method> face = new TreeMap<>();
        for (Method method : AddressTerms.class.getDeclaredMethods()) {
            if (Modifier.isPublic(method.getModifiers())) {
                face.put(method.getName(), method);
            }
        }
        return face;
    }

    private int answer(Method method, String words) throws Exception {
        String[] given = words.isEmpty() ? new String[0] : words.split(", ");
        Object[] arguments = new Object[given.length];
        for (int i = 0; i < given.length; i++) {
            long value = number(given[i]);
            if (method.getParameterTypes()[i] == long.class) {
                arguments[i] = value;
            } else {
                arguments[i] = (int) value;
            }
        }
        return (int) method.invoke(x, arguments);
    }

    /** A name that an earlier line gave to its answer, or a number as Java writes it. */
    private long number(String word) {
        return named.containsKey(word) ? named.get(word) : Long.decode(word.replace("L", ""));
    }
}
