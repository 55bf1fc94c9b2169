import java.io.IOException;
import java.lang.reflect.Constructor;
import java.lang.reflect.Field;
import java.lang.reflect.Method;
import java.lang.reflect.Modifier;
import java.nio.file.Files;
import java.nio.file.Path;
import java.util.ArrayList;
import java.util.Arrays;
import java.util.List;
import java.util.Set;
import java.util.TreeSet;
import java.util.regex.Matcher;
import java.util.regex.Pattern;

/** The class's face, as the document has it, and what of ../shared/LANGUAGE.md a test can see. */
public final class FaceTest {
    private static final Check CHECK = new Check("FaceTest");
    private static final String[] FACE = {
        "int set(int, int, int)", "int hand(int, int, int)", "int visit(int, int)", "int told(int, int)",
        "int feed(int)", "int text()", "int force(int)", "int once(int, int)", "int go(int)",
        "int course(int, int)", "int bad(int)", "int drift(int)", "int say(int, int)", "int whom(int)",
        "int when(int, int)", "int marked()", "int again(int)", "int pictures(int, int)",
        "int seen(int, int, int, int)", "int film(int, int, int)", "int drawn(int)",
        "long chance(int, int, int)", "int image()", "int back()", "int count(int)",
        "int sheet(int, int, int)", "int cell(int, int, int)", "int copy(int, int, int, int, int)",
        "int visits(int, int, int, int)", "int taken(int, int)"};
    private static final String[] CONSTANTS = {"int NONE", "int BAD", "int STATE", "int FULL", "long NO"};
    private static final String[] RULED_OUT = {"throw", "throws", "try", "catch", "finally", "synchronized",
        "assert", "package", "native"};
    private static final Set<String> LIBRARY = Set.of("java.util.ArrayList", "java.util.Arrays", "java.util.Iterator",
        "java.util.List");
    // the document says "some twelve", "some twenty"
    private static final int MOST_CLASSES = 14, MOST_FIELDS = 24;

    public static void main(String[] args) throws IOException {
        face();
        for (Class<?> c : classes()) {
            membersKeepTheRules(c);
        }
        CHECK.holds("some twelve classes", classes().size() <= MOST_CLASSES);
        words();
        CHECK.end();
    }

    private static List<Class<?>> classes() {
        List<Class<?>> all = new ArrayList<>();
        all.add(AsLastTime.class);
        all.addAll(Arrays.asList(AsLastTime.class.getDeclaredClasses()));
        return all;
    }

    private static void face() {
        Set<String> seen = new TreeSet<>();
        for (Method m : AsLastTime.class.getDeclaredMethods()) {
            if (!Modifier.isPrivate(m.getModifiers())) {
                CHECK.holds(m + " is public, not static", Modifier.isPublic(m.getModifiers())
                        && !Modifier.isStatic(m.getModifiers()));
                seen.add(shown(m));
            }
        }
        CHECK.due("the methods " + seen, seen.equals(new TreeSet<>(Arrays.asList(FACE))) ? 1 : 0, 1);
        Set<String> constants = new TreeSet<>();
        for (Field f : AsLastTime.class.getDeclaredFields()) {
            if (!Modifier.isPrivate(f.getModifiers())) {
                CHECK.holds(f + " is a public constant", Modifier.isPublic(f.getModifiers())
                        && Modifier.isStatic(f.getModifiers()) && Modifier.isFinal(f.getModifiers()));
                constants.add(f.getType() + " " + f.getName());
            }
        }
        CHECK.holds("the constants " + constants, constants.equals(new TreeSet<>(Arrays.asList(CONSTANTS))));
        Constructor<?>[] constructors = AsLastTime.class.getDeclaredConstructors();
        CHECK.due("constructors", constructors.length, 1);
        CHECK.holds("a public constructor of nothing", Modifier.isPublic(constructors[0].getModifiers())
                && constructors[0].getParameterCount() == 0);
        CHECK.holds("a public final class", Modifier.isPublic(AsLastTime.class.getModifiers())
                && Modifier.isFinal(AsLastTime.class.getModifiers()));
    }

    private static String shown(Method m) {
        String types = Arrays.toString(m.getParameterTypes());
        return m.getReturnType() + " " + m.getName() + "(" + types.substring(1, types.length() - 1) + ")";
    }

    private static void membersKeepTheRules(Class<?> c) {
        Set<String> names = new TreeSet<>();
        for (String method : FACE) {
            names.add(method.substring(method.indexOf(' ') + 1, method.indexOf('(')));
        }
        int fields = 0;
        for (Field f : c.getDeclaredFields()) {
            boolean fixed = Modifier.isStatic(f.getModifiers());
            CHECK.holds(f + ": a static field is final", !fixed || Modifier.isFinal(f.getModifiers()));
            fields += fixed ? 0 : 1;
        }
        CHECK.holds(c + ": some twenty fields", fields <= MOST_FIELDS);
        for (Method m : c.getDeclaredMethods()) {
            CHECK.holds(m + ": seven parameters at most", m.getParameterCount() <= 7);
            CHECK.holds(m + ": a private one bears no public name", !Modifier.isPrivate(m.getModifiers())
                    || !names.contains(m.getName()));
        }
        if (c != AsLastTime.class) {
            CHECK.holds(c + " is static", Modifier.isStatic(c.getModifiers()));
            CHECK.holds(c + " is private or package-visible", !Modifier.isPublic(c.getModifiers())
                    && !Modifier.isProtected(c.getModifiers()));
        }
    }

    private static void words() throws IOException {
        String source = Files.readString(Path.of("src/main/java/AsLastTime.java"));
        String code = source.replaceAll("(?s)/\\*.*?\\*/", " ").replaceAll("//[^\n]*", " ")
                .replaceAll("\"[^\"\n]*\"", " ");
        Set<String> words = new TreeSet<>(Arrays.asList(code.split("[^A-Za-z_]+")));
        for (String word : RULED_OUT) {
            CHECK.holds("no " + word, !words.contains(word));
        }
        for (String line : code.split("\n")) {
            CHECK.holds("no lambda: " + line, !line.contains("->") || line.matches("\\s*(case\\b.*|default\\s*)->.*"));
            if (line.matches("\\s*import\\b.*")) {
                CHECK.holds("no other library: " + line, LIBRARY.contains(line.replaceAll("\\s*import\\s+|\\s*;.*", "")));
            }
        }
        CHECK.holds("no method reference", !code.contains("::"));
        CHECK.holds("no static block", !code.matches("(?s).*static\\s*\\{.*"));
        Matcher constants = Pattern.compile("\"[^\"\n]*\"").matcher(source);
        while (constants.find()) {
            CHECK.holds("signs are 1 to 127: " + constants.group(), constants.group().matches("[\\x01-\\x7f]*"));
        }
    }
}
