import java.io.IOException;
import java.lang.reflect.Field;
import java.lang.reflect.Method;
import java.lang.reflect.Modifier;
import java.nio.file.Files;
import java.nio.file.Path;
import java.util.ArrayList;
import java.util.List;
import java.util.Set;
import java.util.TreeSet;
import java.util.regex.Matcher;
import java.util.regex.Pattern;
import java.util.stream.Stream;

/**
 * Reads the document itself: its face and its examples hold, each quotation of a test stands in it
 * word for word, and each of its sentences is quoted by a test. Run from the project's root.
 */
public final class DocumentTest extends Bench {
    private static final Path DOCUMENT = Path.of("../shared/DOC.md");
    private static final Path TESTS = Path.of("src/test/java");
    private static final String LITERAL = "\"(?:[^\"\\\\]|\\\\.)*\"";
    private static final Pattern QUOTATION =
        Pattern.compile("\\b(?:says|meets|meetsWhatNeverCame)\\(\\s*(" + LITERAL + "(?:\\s*\\+\\s*" + LITERAL + ")*)");

    /** What tells nothing that an answer could show: titles, and what the document leaves free. */
    private static final List<String> WITHOUT_TEST = List.of("what later calls answer is free", "Error codes.",
        "The constructor and the methods follow, a promise each: the signature, then what it does.");

    public static void main(String[] args) throws IOException {
        new DocumentTest().all();
    }

    private void all() throws IOException {
        if (!Files.exists(DOCUMENT)) {
            System.out.println("there is no document here to read: " + DOCUMENT);
            return;
        }
        String document = Files.readString(DOCUMENT);
        face(document);
        examples(oneLine(document));
        List<String> quotations = quotations();
        eachQuotationStands(oneLine(document), quotations);
        eachSentenceIsQuoted(oneLine(sentencesOf(document)), quotations);
        check.end();
    }

    private static String oneLine(String text) {
        return text.replace("`", "").replaceAll("\\s+", " ");
    }

    private void face(String document) {
        check.about("the public face");
        Matcher block = Pattern.compile("(?s)```java(.*?)```").matcher(document);
        check.due("there is a face", block.find());
        Set<String> told = new TreeSet<>();
        Matcher method = Pattern.compile("public (int|long) (\\w+)\\(([^)]*)\\);").matcher(block.group(1));
        while (method.find()) {
            told.add(method.group(1) + " " + method.group(2) + "(" + method.group(3).replaceAll(" \\w+(,|$)", "$1") + ")");
        }
        Set<String> there = new TreeSet<>();
        for (Method m : HeadsOfRings.class.getDeclaredMethods()) {
            if (Modifier.isPublic(m.getModifiers())) {
                List<String> types = new ArrayList<>();
                Stream.of(m.getParameterTypes()).forEach(type -> types.add(type.getName()));
                there.add(m.getReturnType().getName() + " " + m.getName() + "(" + String.join(", ", types) + ")");
            }
        }
        check.due("the methods are " + told + ", not " + there, told.equals(there) && told.size() == 17);
        constants(block.group(1));
    }

    private void constants(String face) {
        Set<String> told = new TreeSet<>();
        Matcher constant = Pattern.compile("\\b([A-Z]+) = (-\\d+)").matcher(face);
        while (constant.find()) {
            told.add(constant.group(1) + " = " + constant.group(2));
        }
        Set<String> there = new TreeSet<>();
        for (Field f : HeadsOfRings.class.getFields()) {
            there.add(f.getName() + " = " + valueOf(f));
        }
        check.due("the constants are " + told + ", not " + there, told.equals(there) && told.size() == 5);
    }

    private static String valueOf(Field constant) {
        try {
            return String.valueOf(constant.get(null));
        } catch (IllegalAccessException e) {
            return "hidden";
        }
    }

    private void examples(String document) {
        says("Each of them begins with a new object; the results are given behind the calls.");
        Matcher all = Pattern.compile("Examples: (.*) The constructor and the methods follow").matcher(document);
        check.due("there are examples", all.find());
        int calls = 0;
        for (String example : all.group(1).split("(?<=\\.) (?=\\d\\. )")) {
            fresh();
            Matcher call = Pattern.compile("(\\w+\\([-\\d, ]*\\)) = (-?\\d+)").matcher(example);
            while (call.find()) {
                due(call.group(1) + " in: " + example, Calls.make(x, call.group(1)), Long.parseLong(call.group(2)));
                calls++;
            }
        }
        due("calls of the examples", calls, all.group(1).split("\\) = ").length - 1);
    }

    private static List<String> quotations() throws IOException {
        List<String> found = new ArrayList<>();
        try (Stream<Path> files = Files.list(TESTS)) {
            for (Path file : files.filter(f -> f.toString().endsWith("Test.java")).sorted().toList()) {
                Matcher quotation = QUOTATION.matcher(Files.readString(file));
                while (quotation.find()) {
                    found.add(unquoted(quotation.group(1)));
                }
            }
        }
        return found;
    }

    private static String unquoted(String literals) {
        String joined = literals.replaceAll("\"\\s*\\+\\s*\"", "");
        return joined.substring(1, joined.length() - 1).replace("\\\"", "\"");
    }

    /** A quotation may leave a gap: " .. ". */
    private static String[] partsOf(String quotation) {
        return quotation.split(" \\.\\. ");
    }

    private void eachQuotationStands(String document, List<String> quotations) {
        check.about("each quotation stands in the document");
        for (String quotation : quotations) {
            for (String part : partsOf(quotation)) {
                check.due(part, document.contains(part));
            }
        }
    }

    /** The document without titles, signatures, its face, its examples and what it does not promise. */
    private static String sentencesOf(String document) {
        return document.replaceAll("(?s)```java.*?```", "")
            .replaceAll("(?s)## Not promised.*", "")
            .replaceAll("(?s)Examples: .*?link\\(0\\) = -1000001\\.", "")
            .replaceAll("(?m)^(#.*|---- .*|`.*`|The ring|States|Runs)$", "");
    }

    private void eachSentenceIsQuoted(String sentences, List<String> quotations) {
        check.about("each sentence is quoted by a test");
        boolean[] held = new boolean[sentences.length()];
        for (String quotation : quotations) {
            for (String part : partsOf(quotation)) {
                hold(sentences, part, held);
            }
        }
        for (String part : WITHOUT_TEST) {
            hold(sentences, part, held);
        }
        StringBuilder rest = new StringBuilder();
        for (int i = 0; i < held.length; i++) {
            rest.append(held[i] ? '|' : sentences.charAt(i));
        }
        for (String part : rest.toString().split("\\|+")) {
            check.due("not quoted: " + part, !part.matches(".*\\w.*"));
        }
    }

    private static void hold(String sentences, String part, boolean[] held) {
        for (int at = sentences.indexOf(part); at >= 0; at = sentences.indexOf(part, at + 1)) {
            for (int i = at; i < at + part.length(); i++) {
                held[i] = true;
            }
        }
    }
}
