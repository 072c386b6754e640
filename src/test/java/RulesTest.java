import java.io.IOException;
import java.lang.reflect.Constructor;
import java.lang.reflect.Field;
import java.lang.reflect.Method;
import java.lang.reflect.Modifier;
import java.nio.file.Files;
import java.nio.file.Path;
import java.util.ArrayList;
import java.util.Arrays;
import java.util.List;
import java.util.Set;
import java.util.TreeSet;
import java.util.regex.Matcher;
import java.util.regex.Pattern;

/** What a test can see of the document's face and of LANGUAGE.md; run from the project's root. */
public final class RulesTest {
    private static final Check check = new Check();

    private static final Set<String> FACE = new TreeSet<>(List.of(
        "int write(int)", "int ring()", "int fault()", "int begin(int,int,int)", "int wake(int)",
        "int deliver(int)", "int run(int,int,int)", "int undo()", "int contender(int,int)", "int link(int)",
        "int letter(int,int,int)", "int sent(int)", "int would(int,int,int)", "int foresee(int,int)",
        "int sit(int)", "long chance(int,int,int,int)", "int count(int)"));

    public static void main(String[] args) throws IOException {
        face();
        inside();
        source(withoutComments(Files.readString(Path.of("src/main/java/HeadsOfRings.java"))));
        check.end();
    }

    private static void face() {
        Class<?> c = HeadsOfRings.class;
        check.due("the class is public and final", Modifier.isPublic(c.getModifiers()) && Modifier.isFinal(c.getModifiers()));
        Set<String> open = new TreeSet<>();
        for (Method m : c.getDeclaredMethods()) {
            if (!Modifier.isPrivate(m.getModifiers())) {
                String parameters = String.join(",", Arrays.stream(m.getParameterTypes()).map(Class::getName).toList());
                open.add(m.getReturnType().getName() + " " + m.getName() + "(" + parameters + ")");
                check.due(m.getName() + " is public, not static",
                    Modifier.isPublic(m.getModifiers()) && !Modifier.isStatic(m.getModifiers()));
            }
        }
        check.due("the methods of the face: " + open, open.equals(FACE));
        Set<String> constants = new TreeSet<>();
        for (Field f : c.getDeclaredFields()) {
            if (!Modifier.isPrivate(f.getModifiers())) {
                constants.add(f.getName());
            }
        }
        check.due("the constants of the face: " + constants,
            constants.equals(Set.of("NONE", "UNKNOWN", "OUTSIDE", "NOT", "FULL")));
        Constructor<?>[] makers = c.getDeclaredConstructors();
        check.due("one public constructor without parameters", makers.length == 1
            && Modifier.isPublic(makers[0].getModifiers()) && makers[0].getParameterCount() == 0);
        values();
    }

    private static void values() {
        check.due("NONE", HeadsOfRings.NONE, -1);
        check.due("UNKNOWN", HeadsOfRings.UNKNOWN, -1000001);
        check.due("OUTSIDE", HeadsOfRings.OUTSIDE, -1000002);
        check.due("NOT", HeadsOfRings.NOT, -1000003);
        check.due("FULL", HeadsOfRings.FULL, -1000004);
    }

    private static void inside() {
        Set<String> faceNames = new TreeSet<>();
        FACE.forEach(m -> faceNames.add(m.substring(m.indexOf(' ') + 1, m.indexOf('('))));
        List<Class<?>> all = new ArrayList<>(List.of(HeadsOfRings.class.getDeclaredClasses()));
        check.due("at most twelve classes", all.size() + 1 <= 12);
        all.add(HeadsOfRings.class);
        for (Class<?> c : all) {
            check.due(c + " is static or the outer one", c == HeadsOfRings.class || Modifier.isStatic(c.getModifiers()));
            int fields = 0;
            for (Field f : c.getDeclaredFields()) {
                boolean isStatic = Modifier.isStatic(f.getModifiers());
                check.due(f + " is final if it is static", !isStatic || Modifier.isFinal(f.getModifiers()));
                fields += isStatic ? 0 : 1;
            }
            check.due(c + " has at most twenty fields", fields <= 20);
            for (Method m : c.getDeclaredMethods()) {
                check.due(m + " has at most seven parameters", m.getParameterCount() <= 7);
                boolean isOfFace = c == HeadsOfRings.class && Modifier.isPublic(m.getModifiers());
                check.due(m + " bears no name of the face", isOfFace || !faceNames.contains(m.getName()));
            }
        }
    }

    private static String withoutComments(String source) {
        return source.replaceAll("(?s)/\\*.*?\\*/", "").replaceAll("//[^\n]*", "");
    }

    private static void source(String source) {
        for (String word : List.of("throw", "throws", "try", "catch", "finally", "synchronized", "assert", "package",
            "import", "float", "double", "yield", "native", "volatile", "protected", "toString", "hashCode")) {
            check.due("no word " + word, !Pattern.compile("\\b" + word + "\\b").matcher(source).find());
        }
        for (String sign : List.of("->", "::", "static {", "Exact", "\"")) {
            check.due("no sign " + sign, !source.contains(sign));
        }
        check.due("only signs 1 to 127", source.chars().allMatch(c -> c >= 1 && c <= 127));
        Matcher library = Pattern.compile("\\b(System|Math|Integer|Long|Arrays)\\.(\\w+)").matcher(source);
        while (library.find()) {
            check.due("of the library: " + library.group(),
                Set.of("System.arraycopy", "Math.min", "Math.max").contains(library.group()));
        }
        methods(source.split("\n"));
    }

    private static void methods(String[] lines) {
        int start = -1;
        String indent = "";
        for (int i = 0; i < lines.length; i++) {
            Matcher head = Pattern.compile("^(    |        )\\S.*\\) \\{$").matcher(lines[i]);
            if (start < 0 && head.matches()) {
                start = i;
                indent = head.group(1);
            } else if (start >= 0 && lines[i].equals(indent + "}")) {
                check.due("at most sixty lines: " + lines[start].trim(), i - start < 60);
                recursion(lines[start].trim(), String.join("\n", Arrays.copyOfRange(lines, start + 1, i)));
                start = -1;
            }
        }
    }

    private static void recursion(String head, String body) {
        Matcher name = Pattern.compile("(\\w+)\\(").matcher(head);
        boolean callsItself = name.find() && Pattern.compile("(?<!\\.)\\b" + name.group(1) + "\\(").matcher(body).find();
        check.due("what calls itself is private and static: " + head, !callsItself || head.startsWith("private static "));
    }
}
