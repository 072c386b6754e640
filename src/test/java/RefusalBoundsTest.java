import java.util.ArrayList;
import java.util.LinkedHashMap;
import java.util.List;
import java.util.Map;

/** Refused calls: which code they answer if several apply, and that nothing has changed after them. */
public final class RefusalBoundsTest extends Bench {
    /** What brings a new object to a state: calls, and texts to be written, with | between them. */
    private static final Map<String, String> STATES = new LinkedHashMap<>();

    static {
        STATES.put("new", "");
        STATES.put("part of a text", "7r;8");
        STATES.put("full text", "7r;8b;9                                 ");
        STATES.put("fault read", "7r;7|ring()|7r;8");
        STATES.put("ring only", "7r;8b;|ring()|7r;8");
        STATES.put("six, none woken", "1r;2b;3r;4b;5r;6b;|ring()|begin(1, 1, 1)");
        STATES.put("names under way", "5r;9b;7r;|ring()|begin(1, 1, 1)|wake(0)|wake(1)|deliver(3)");
        STATES.put("all probes under way", "1r;2b;3r;4b;5r;6b;|ring()|begin(2, 1, 1)|wake(0)|wake(1)|wake(2)|wake(3)|wake(4)|wake(5)");
        STATES.put("replies counted", "9r;5r;7r;|ring()|begin(2, 1, 1)|wake(0)|deliver(0)|deliver(3)");
        STATES.put("phases", "4r;2r;3r;1r;|ring()|begin(3, 1, 1)|wake(0)|wake(1)|wake(2)|wake(3)|run(0, 1, 9)");
        STATES.put("random marks", "4b;2b;3b;|ring()|begin(4, 2, 77)|wake(0)|wake(1)|run(3, 9, 3)|7r;");
        STATES.put("all over", "5r;9r;|ring()|begin(1, 1, 1)|wake(0)|wake(1)|run(0, 1, 200)");
        STATES.put("thirty actions", "5r;9r;|ring()|begin(4, 1, 3)|wake(0)|wake(1)" + "|run(2, 5, 3)".repeat(28));
        STATES.put("some undone", "5r;9r;7r;|ring()|begin(2, 1, 1)|wake(0)|wake(1)|deliver(0)|deliver(1)|undo()|undo()");
        STATES.put("all undone", "5r;9r;|ring()|begin(1, 1, 1)|wake(0)|undo()");
    }

    public static void main(String[] args) {
        new RefusalBoundsTest().all();
    }

    private void all() {
        outsideInAnyState();
        unknownInAnyState();
        notWithoutRing();
        notWithoutAlgorithm();
        notAwake();
        notWithoutLetter();
        notWithDifferentSenses();
        notWithoutAction();
        fullText();
        fullLinks();
        unknownBeforeOutside();
        unknownBeforeNot();
        outsideBeforeNot();
        outsideBeforeFull();
        noneIsNoError();
        askingChangesNothing();
        check.end();
    }

    private static HeadsOfRings at(String state) {
        HeadsOfRings made = new HeadsOfRings();
        for (String part : STATES.get(state).split("\\|")) {
            if (part.contains("(")) {
                Calls.make(made, part);
            } else {
                part.chars().forEach(made::write);
            }
        }
        return made;
    }

    /** What a state leads to, each time on a new object, since these views change it. */
    private static List<List<Long>> viewsOf(String state, String callBefore) {
        List<List<Long>> views = new ArrayList<>();
        for (int view = 0; view <= 5; view++) {
            HeadsOfRings y = at(state);
            if (!callBefore.isEmpty()) {
                Calls.make(y, callBefore);
            }
            views.add(view == 0 ? lookAt(y) : view == 1 ? triedOut(y) : view == 2 ? runOn(y)
                : view == 3 ? textReadOn(y) : undone(y, view == 4 ? 1 : 20));
        }
        return views;
    }

    private static List<Long> triedOut(HeadsOfRings y) {
        List<Long> seen = new ArrayList<>();
        for (int order = 0; order <= 3; order++) {
            for (int what = 0; what <= 4; what++) {
                seen.add((long) y.would(order, 11, what));
            }
        }
        for (int k = 1; k <= 3; k++) {
            for (int what = 0; what <= 3; what++) {
                seen.add((long) y.foresee(k, what));
            }
        }
        return seen;
    }

    private static List<Long> runOn(HeadsOfRings y) {
        for (int i = 0; i < y.count(0); i++) {
            y.wake(i);
        }
        y.run(3, 17, 23);
        List<Long> seen = lookAt(y);
        seen.add((long) y.run(2, 17, 200));
        seen.addAll(lookAt(y));
        return seen;
    }

    private static List<Long> textReadOn(HeadsOfRings y) {
        List<Long> seen = new ArrayList<>();
        for (int letter : new int[] {'b', ';'}) {
            seen.add((long) y.write(letter));
        }
        seen.add((long) y.ring());
        seen.addAll(lookAt(y));
        return seen;
    }

    private static List<Long> undone(HeadsOfRings y, int times) {
        List<Long> seen = new ArrayList<>();
        for (int i = 0; i < times; i++) {
            seen.add((long) y.undo());
        }
        seen.addAll(lookAt(y));
        return seen;
    }

    private void refused(String state, int code, String... calls) {
        for (String call : calls) {
            due(state + ": " + call, Calls.make(at(state), call), code);
            unchanged(state, call);
        }
    }

    private void unchanged(String state, String call) {
        check.due(state + ": nothing has changed after " + call, viewsOf(state, call).equals(viewsOf(state, "")));
    }

    private void outsideInAnyState() {
        says("OUTSIDE (-1000002): another argument is out of its range.");
        for (String state : STATES.keySet()) {
            refused(state, OUTSIDE, "write(-1)", "write(256)",
                "begin(0, 1, 1)", "begin(5, 1, 1)", "begin(1, 0, 1)", "begin(4, 10, 1)", "begin(2, 1, 0)", "begin(3, 1, 1000000)",
                "run(-1, 1, 1)", "run(4, 1, 1)", "run(0, 0, 1)", "run(3, 1000000, 1)", "run(1, 1, -1)", "run(2, 1, 201)",
                "sent(-1)", "sent(8)",
                "would(-1, 1, 0)", "would(4, 1, 0)", "would(0, 0, 0)", "would(0, 1000000, 0)", "would(3, 1, -1)", "would(3, 1, 5)",
                "foresee(0, 0)", "foresee(4, 0)", "foresee(1, -1)", "foresee(3, 4)",
                "sit(-1)", "sit(4)",
                "chance(0, 1, 0, 0)", "chance(6, 1, 0, 0)", "chance(1, 0, 0, 0)", "chance(1, 4, 0, 0)", "chance(1, 1, -1, 0)",
                "chance(1, 1, 5, 0)", "chance(1, 1, 0, -1)", "chance(1, 1, 0, 2)",
                "count(-1)", "count(11)");
            if (at(state).count(0) > 0) {
                refused(state, OUTSIDE, "contender(0, -1)", "contender(0, 7)");
            }
        }
        refused("names under way", OUTSIDE, "letter(0, 0, -1)", "letter(0, 0, 5)");
        refused("all probes under way", OUTSIDE, "letter(11, 0, -1)", "letter(11, 0, 5)");
    }

    private void unknownInAnyState() {
        says("UNKNOWN (-1000001): there is no such contender, link or letter.");
        for (String state : STATES.keySet()) {
            int n = at(state).count(0);
            refused(state, UNKNOWN, "wake(-1)", "wake(" + n + ")", "deliver(-1)", "deliver(" + 2 * n + ")",
                "contender(-1, 0)", "contender(" + n + ", 0)", "link(-1)", "link(" + 2 * n + ")",
                "letter(-1, 0, 0)", "letter(" + 2 * n + ", 0, 0)");
            for (int link = 0; link < 2 * n; link++) {
                refused(state, UNKNOWN, "letter(" + link + ", -1, 0)", "letter(" + link + ", " + at(state).link(link) + ", 0)");
            }
        }
    }

    private void notWithoutRing() {
        says("NOT if there is no ring");
        for (String state : List.of("new", "part of a text", "full text", "fault read")) {
            refused(state, NOT, "begin(1, 1, 1)", "begin(2, 9, 999999)", "begin(3, 1, 1)", "begin(4, 1, 1)",
                "sit(0)", "sit(1)", "sit(2)", "sit(3)");
        }
    }

    private void notWithoutAlgorithm() {
        says("NOT if no algorithm is begun");
        for (String state : List.of("new", "part of a text", "full text", "fault read", "ring only")) {
            refused(state, NOT, "run(0, 1, 0)", "run(3, 999999, 200)", "would(0, 1, 0)", "would(3, 999999, 4)", "would(0, 1, 2)",
                "foresee(1, 0)", "foresee(3, 3)", "undo()");
        }
        refused("ring only", NOT, "wake(0)", "wake(1)", "deliver(0)", "deliver(3)");
    }

    private void notAwake() {
        says("NOT if no algorithm is begun or it is not asleep");
        refused("names under way", NOT, "wake(0)", "wake(1)");
        refused("all probes under way", NOT, "wake(0)", "wake(5)");
        refused("replies counted", NOT, "wake(0)", "wake(1)");
        refused("all over", NOT, "wake(0)", "wake(1)");
    }

    private void notWithoutLetter() {
        says("NOT if there is no letter");
        refused("six, none woken", NOT, "deliver(0)", "deliver(11)");
        refused("names under way", NOT, "deliver(2)", "deliver(3)", "deliver(4)", "deliver(5)");
        refused("all over", NOT, "deliver(0)", "deliver(1)", "deliver(2)", "deliver(3)");
        refused("all undone", NOT, "deliver(0)");
    }

    private void notWithDifferentSenses() {
        says("for algorithm 3 or 4 not all senses of the text are equal");
        for (String state : List.of("ring only", "six, none woken", "names under way", "all probes under way")) {
            refused(state, NOT, "begin(3, 1, 1)", "begin(4, 1, 1)", "begin(4, 9, 999999)");
        }
        for (int n = 2; n <= 6; n++) {
            for (int other = 0; other < n; other++) {
                for (char sense : new char[] {'r', 'b'}) {
                    StringBuilder text = new StringBuilder(textOf(n, sense));
                    text.setCharAt(3 * other + 1, sense == 'r' ? 'b' : 'r');
                    make(text.toString(), 0);
                    due("begin(3, 1, 1) = NOT; begin(4, 1, 1) = NOT; count(1) = 0; begin(1, 1, 1) = 1; begin(2, 1, 1) = 1");
                    make(textOf(n, sense), 0);
                    due("begin(3, 1, 1) = 1; begin(4, 1, 1) = 1");
                }
            }
        }
        // The senses of the text count, not those that a crown has made equal.
        make("1r;2b;", 1);
        wake(0);
        x.run(0, 1, 200);
        due("contender(0, 1) = 0; contender(1, 1) = 0; begin(3, 1, 1) = NOT; begin(4, 1, 1) = NOT; count(1) = 1; contender(1, 1) = 0");
    }

    private void notWithoutAction() {
        says("NOT if there is none");
        refused("six, none woken", NOT, "undo()");
        refused("all undone", NOT, "undo()");
    }

    private void fullText() {
        says("FULL if it already has 40 bytes");
        refused("full text", FULL, "write(0)", "write(59)", "write(255)");
    }

    private void fullLinks() {
        says("FULL if more than 6 links have letters now");
        for (int k = 1; k <= 3; k++) {
            for (int what = 0; what <= 3; what++) {
                refused("all probes under way", FULL, "foresee(" + k + ", " + what + ")");
            }
        }
    }

    private void unknownBeforeOutside() {
        says("They are checked in this order.");
        refused("new", UNKNOWN, "contender(0, -1)", "contender(0, 7)", "letter(0, 0, -1)", "letter(0, 0, 5)");
        refused("ring only", UNKNOWN, "contender(2, 7)", "contender(-1, -1)", "letter(0, 0, 5)", "letter(4, 0, 5)", "letter(-1, 0, -1)");
        refused("names under way", UNKNOWN, "contender(3, 7)", "letter(0, 1, 5)", "letter(0, -1, -1)", "letter(2, 0, 5)", "letter(6, 0, 5)");
    }

    private void unknownBeforeNot() {
        says("They are checked in this order.");
        refused("new", UNKNOWN, "wake(0)", "deliver(0)");
        refused("ring only", UNKNOWN, "wake(2)", "wake(-1)", "deliver(4)", "deliver(-1)");
        refused("all over", UNKNOWN, "wake(2)", "deliver(4)");
    }

    private void outsideBeforeNot() {
        says("They are checked in this order.");
        refused("new", OUTSIDE, "begin(0, 1, 1)", "begin(1, 1, 0)", "run(0, 1, 201)", "would(0, 1, 5)", "foresee(4, 0)", "foresee(1, 4)", "sit(4)");
        refused("ring only", OUTSIDE, "begin(3, 0, 1)", "begin(3, 1, 0)", "begin(4, 10, 1)", "begin(5, 1, 1)", "run(4, 1, 0)",
            "run(0, 0, 0)", "would(4, 1, 0)", "would(0, 0, 2)", "foresee(0, 0)");
    }

    private void outsideBeforeFull() {
        says("They are checked in this order.");
        refused("full text", OUTSIDE, "write(-1)", "write(256)");
        refused("all probes under way", OUTSIDE, "foresee(0, 0)", "foresee(4, 0)", "foresee(1, -1)", "foresee(1, 4)");
    }

    private void noneIsNoError() {
        says("NONE (-1) is not an error; it means \"there is none\", and it is returned only if no error applies.");
        fresh();
        due("count(8) = NONE; would(0, 1, 2) = NOT; contender(0, 3) = UNKNOWN; letter(0, 0, 4) = UNKNOWN");
        make("5r;9r;", 1);
        due("count(8) = NONE; would(0, 1, 2) = NONE; contender(0, 3) = NONE; contender(2, 3) = UNKNOWN; letter(0, 0, 4) = UNKNOWN");
        due("would(0, 0, 2) = OUTSIDE; wake(0) = 1; letter(0, 0, 4) = NONE; letter(0, 0, 5) = OUTSIDE; letter(0, 1, 4) = UNKNOWN");
    }

    private void askingChangesNothing() {
        says("Nothing is changed.");
        for (String state : STATES.keySet()) {
            for (int order = 0; order <= 3; order++) {
                for (int what = 0; what <= 4; what++) {
                    unchanged(state, "would(" + order + ", 5, " + what + ")");
                }
            }
            for (int k = 1; k <= 3; k++) {
                for (int what = 0; what <= 3; what++) {
                    unchanged(state, "foresee(" + k + ", " + what + ")");
                }
            }
            for (String call : List.of("sit(2)", "chance(5, 3, 4, 0)", "fault()", "count(8)", "sent(0)", "link(0)",
                "letter(0, 0, 0)", "contender(0, 2)")) {
                unchanged(state, call);
            }
        }
    }
}
