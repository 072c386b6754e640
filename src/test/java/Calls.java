import java.util.regex.Matcher;
import java.util.regex.Pattern;

/** Makes calls that are written as in the document's examples, such as "wake(0)" or "run(0, 1, 200)". */
final class Calls {
    private static final Pattern FORM = Pattern.compile("(\\w+)\\(([-\\d, ]*)\\)");

    private Calls() {
    }

    static long make(HeadsOfRings x, String call) {
        Matcher form = FORM.matcher(call.trim());
        if (!form.matches()) {
            throw new IllegalArgumentException("not a call: " + call);
        }
        int[] a = numbers(form.group(2));
        return switch (form.group(1) + "/" + a.length) {
            case "write/1" -> x.write(a[0]);
            case "ring/0" -> x.ring();
            case "fault/0" -> x.fault();
            case "begin/3" -> x.begin(a[0], a[1], a[2]);
            case "wake/1" -> x.wake(a[0]);
            case "deliver/1" -> x.deliver(a[0]);
            case "run/3" -> x.run(a[0], a[1], a[2]);
            case "undo/0" -> x.undo();
            case "contender/2" -> x.contender(a[0], a[1]);
            case "link/1" -> x.link(a[0]);
            case "letter/3" -> x.letter(a[0], a[1], a[2]);
            case "sent/1" -> x.sent(a[0]);
            case "would/3" -> x.would(a[0], a[1], a[2]);
            case "foresee/2" -> x.foresee(a[0], a[1]);
            case "sit/1" -> x.sit(a[0]);
            case "chance/4" -> x.chance(a[0], a[1], a[2], a[3]);
            case "count/1" -> x.count(a[0]);
            default -> throw new IllegalArgumentException("no such call: " + call);
        };
    }

    /** A number, or the name of one of the constants, whose values are written out here on purpose. */
    static long answer(String word) {
        return switch (word.trim()) {
            case "NONE" -> -1;
            case "UNKNOWN" -> -1000001;
            case "OUTSIDE" -> -1000002;
            case "NOT" -> -1000003;
            case "FULL" -> -1000004;
            default -> Long.parseLong(word.trim());
        };
    }

    private static int[] numbers(String list) {
        if (list.isBlank()) {
            return new int[0];
        }
        String[] words = list.split(",");
        int[] numbers = new int[words.length];
        for (int i = 0; i < words.length; i++) {
            numbers[i] = Integer.parseInt(words[i].trim());
        }
        return numbers;
    }
}
