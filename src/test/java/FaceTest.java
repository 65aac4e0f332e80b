import java.io.IOException;
import java.lang.reflect.Constructor;
import java.lang.reflect.Field;
import java.lang.reflect.Method;
import java.lang.reflect.Modifier;
import java.nio.file.Files;
import java.nio.file.Path;
import java.util.Arrays;
import java.util.HashSet;
import java.util.List;
import java.util.Set;
import java.util.TreeSet;
import java.util.regex.Pattern;
import java.util.stream.Collectors;

/** The class has the document's face and no other, and the source no word that LANGUAGE.md leaves out. */
public final class FaceTest {
    private static final Path SOURCE = Path.of("src/main/java/HalfAsleep.java");
    private static final Check CHECK = new Check();

    /** The names of the methods and, behind each, its parameters: i for int, l for long. */
    private static final List<String> FACE = List.of("write il", "wipe ", "fault ", "lay ", "half iii", "see ii", "note ii",
            "deed ii", "shifts i", "done ii", "handed ii", "best i", "knows iii", "could ii", "alike i", "purse iii",
            "rests i", "camps i", "seen ii", "forget ", "fits ", "least ", "month iiii", "keep ", "back ", "count i");

    public static void main(String[] args) throws IOException {
        face();
        inside();
        words();
        CHECK.end("FaceTest");
    }

    private static String signature(Method m) {
        String parameters = Arrays.stream(m.getParameterTypes()).map(t -> t.getName().substring(0, 1))
                .collect(Collectors.joining());
        return m.getName() + " " + parameters;
    }

    private static void face() {
        CHECK.about("the face");
        Set<String> open = new TreeSet<>();
        for (Method m : HalfAsleep.class.getDeclaredMethods()) {
            if (!Modifier.isPrivate(m.getModifiers())) {
                open.add(signature(m));
                CHECK.holds(m + " is public, an int and of the object", Modifier.isPublic(m.getModifiers())
                        && !Modifier.isStatic(m.getModifiers()) && m.getReturnType() == int.class);
            }
        }
        CHECK.holds("the methods are those of the document: " + open, open.equals(new TreeSet<>(FACE)));
        Constructor<?>[] constructors = HalfAsleep.class.getDeclaredConstructors();
        CHECK.holds("one public constructor without parameters", constructors.length == 1
                && Modifier.isPublic(constructors[0].getModifiers()) && constructors[0].getParameterCount() == 0);
        CHECK.holds("public and final", Modifier.isFinal(HalfAsleep.class.getModifiers())
                && Modifier.isPublic(HalfAsleep.class.getModifiers()));
        Set<String> constants = new HashSet<>();
        for (Field f : HalfAsleep.class.getDeclaredFields()) {
            if (!Modifier.isPrivate(f.getModifiers())) {
                constants.add(f.getName());
            }
        }
        CHECK.holds("the constants: " + constants, constants.equals(Set.of("BAD", "NO", "FULL", "NONE")));
        CHECK.due("BAD", HalfAsleep.BAD, -1);
        CHECK.due("NO", HalfAsleep.NO, -2);
        CHECK.due("FULL", HalfAsleep.FULL, -3);
        CHECK.due("NONE", HalfAsleep.NONE, -4);
    }

    private static void inside() {
        CHECK.about("what is inside");
        Set<String> faceNames = FACE.stream().map(s -> s.substring(0, s.indexOf(' '))).collect(Collectors.toSet());
        Set<Class<?>> classes = new HashSet<>(List.of(HalfAsleep.class.getDeclaredClasses()));
        CHECK.holds("twelve classes at most", classes.size() < 12);
        for (Class<?> inner : classes) {
            CHECK.holds(inner + " is static and not public", Modifier.isStatic(inner.getModifiers())
                    && !Modifier.isPublic(inner.getModifiers()) && !Modifier.isProtected(inner.getModifiers()));
        }
        classes.add(HalfAsleep.class);
        for (Class<?> each : classes) {
            int fields = 0;
            for (Field f : each.getDeclaredFields()) {
                boolean isStatic = Modifier.isStatic(f.getModifiers());
                CHECK.holds(f + " is final, if static", !isStatic || Modifier.isFinal(f.getModifiers()));
                fields += isStatic ? 0 : 1;
            }
            CHECK.holds(each + " has some twenty fields at most", fields <= 20);
            for (Method m : each.getDeclaredMethods()) {
                CHECK.holds(m + " has seven parameters at most", m.getParameterCount() <= 7);
                boolean ofFace = each == HalfAsleep.class && Modifier.isPublic(m.getModifiers());
                CHECK.holds(m + " has a name of its own", ofFace || !faceNames.contains(m.getName()));
            }
        }
    }

    private static void words() throws IOException {
        CHECK.about("the source");
        String source = Files.readString(SOURCE).replaceAll("(?s)/\\*.*?\\*/", "").replaceAll("//[^\n]*", "");
        List<String> wrong = List.of("\\bimport\\b", "\\bpackage\\b", "\\btry\\b", "\\bcatch\\b", "\\bthrow", "\\bfinally\\b",
                "\\bsynchronized\\b", "\\bassert\\b", "\\binstanceof\\b", "->", "::", "Exact\\(", "\\bprotected\\b",
                "\\bdouble\\b", "\\bfloat\\b", "\\bvar\\b", "\\bnull\\b", "static \\{");
        for (String word : wrong) {
            CHECK.holds("no " + word, !Pattern.compile(word).matcher(source).find());
        }
        for (String line : source.split("\n")) {
            boolean field = line.matches("\\s*private (final )?\\w+(\\[\\])? \\w+ = new .*;");
            CHECK.holds("only fields make objects: " + line.trim(), field || !line.contains("new "));
        }
    }
}
