import java.io.IOException;
import java.lang.reflect.Constructor;
import java.lang.reflect.Field;
import java.lang.reflect.Method;
import java.lang.reflect.Modifier;
import java.nio.file.Files;
import java.nio.file.Path;
import java.util.ArrayList;
import java.util.Arrays;
import java.util.List;
import java.util.TreeSet;

/** The public face of the document is there, and nothing beside it; and words that the rules leave out. */
public final class FaceTest {
    private static final Sheet s = new Sheet();

    private static final String[] FACE = {
        "public static final int AddressTerms.BAD",
        "public static final int AddressTerms.NO",
        "public static final int AddressTerms.FULL",
        "public AddressTerms()",
        "public int AddressTerms.type(long,int)",
        "public int AddressTerms.resolve()",
        "public int AddressTerms.base(int)",
        "public int AddressTerms.label(int)",
        "public int AddressTerms.literal(int)",
        "public int AddressTerms.tagged(int)",
        "public int AddressTerms.prefix(int)",
        "public int AddressTerms.part(int,int)",
        "public int AddressTerms.kind(int)",
        "public int AddressTerms.sort(int)",
        "public int AddressTerms.alike(int,int)",
        "public int AddressTerms.compare(int,int)",
        "public int AddressTerms.print(int,int)",
        "public int AddressTerms.at(int)",
        "public int AddressTerms.count(int)",
    };

    private static final String[] LEFT_OUT = {
        "throw", "try", "catch", "synchronized", "assert", "import", "package", "->", "::", "Exact", "protected",
        "NaN", "equals", "hashCode", "toString",
    };

    public static void main(String[] args) throws IOException {
        face();
        classesInside();
        words();
        s.due("BAD", AddressTerms.BAD, -1);
        s.due("NO", AddressTerms.NO, -2);
        s.due("FULL", AddressTerms.FULL, -3);
        s.end();
    }

    private static void face() {
        TreeSet<String> seen = new TreeSet<>();
        TreeSet<String> publicNames = new TreeSet<>();
        List<String> privateNames = new ArrayList<>();
        for (Field field : AddressTerms.class.getDeclaredFields()) {
            if (!Modifier.isPrivate(field.getModifiers())) {
                seen.add(field.toString());
            }
        }
        for (Constructor<?> made : AddressTerms.class.getDeclaredConstructors()) {
            seen.add(made.toString());
        }
        for (Method method : AddressTerms.class.getDeclaredMethods()) {
            if (Modifier.isPrivate(method.getModifiers())) {
                privateNames.add(method.getName());
            } else {
                seen.add(method.toString());
                publicNames.add(method.getName());
            }
        }
        s.due("the face", seen.toString(), new TreeSet<>(Arrays.asList(FACE)).toString());
        s.due("the class", Modifier.toString(AddressTerms.class.getModifiers()), "public final");
        privateNames.retainAll(publicNames);
        s.due("private methods with public names", privateNames.toString(), "[]");
    }

    private static void classesInside() {
        Class<?>[] inside = AddressTerms.class.getDeclaredClasses();
        s.due("at most twelve classes", inside.length + 1 <= 12 ? 1 : 0, 1);
        for (Class<?> one : inside) {
            s.due(one.getName() + " is private and static", Modifier.toString(one.getModifiers()), "private static final");
        }
    }

    private static void words() throws IOException {
        StringBuilder code = new StringBuilder();
        for (String line : Files.readAllLines(Path.of("src/main/java/AddressTerms.java"))) {
            String bare = line.trim();
            if (!bare.startsWith("/") && !bare.startsWith("*")) {
                code.append(line).append('\n');
            }
        }
        for (String word : LEFT_OUT) {
            s.due("place of " + word, code.indexOf(word), -1);
        }
    }
}
