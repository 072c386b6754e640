import java.util.ArrayList;
import java.util.List;

/** What the tests share: an object, ways to bring it somewhere, and what is due there. */
abstract class Bench {
    static final int NONE = -1, UNKNOWN = -1000001, OUTSIDE = -1000002, NOT = -1000003, FULL = -1000004;
    static final int LEAST = Integer.MIN_VALUE, GREATEST = Integer.MAX_VALUE;

    final Check check = new Check();
    HeadsOfRings x = new HeadsOfRings();

    void says(String sentence) {
        check.says(sentence);
    }

    void due(String call, long got, long want) {
        check.due(call, got, want);
    }

    /** Calls with their answers as in the document's examples: "wake(0) = 1; wake(0) = NOT". */
    void due(String calls) {
        for (String part : calls.split(";")) {
            String[] sides = part.split("=");
            due(sides[0].trim() + " in '" + calls + "'", Calls.make(x, sides[0]), Calls.answer(sides[1]));
        }
    }

    void fresh() {
        x = new HeadsOfRings();
    }

    void type(String text) {
        for (int i = 0; i < text.length(); i++) {
            x.write(text.charAt(i));
        }
    }

    /** A new object with the ring of the text, and an algorithm with d 1 and seed 1 if way is not 0. */
    void make(String text, int way) {
        make(text, way, 1, 1);
    }

    void make(String text, int way, int d, int seed) {
        fresh();
        type(text);
        due("ring() of " + text + " is one", x.ring() >= 2 ? 1 : 0, 1);
        if (way != 0) {
            due("begin(" + way + ", " + d + ", " + seed + ") on " + text, x.begin(way, d, seed), 1);
        }
    }

    /** The text of n contenders with the names 1 to n, all with this sense. */
    static String textOf(int n, char sense) {
        StringBuilder text = new StringBuilder();
        for (int name = 1; name <= n; name++) {
            text.append(name).append(sense).append(';');
        }
        return text.toString();
    }

    void wakeAll() {
        for (int i = 0; i < x.count(0); i++) {
            x.wake(i);
        }
    }

    void wake(int... contenders) {
        for (int i : contenders) {
            due("wake(" + i + ") is possible", x.wake(i) >= 1 ? 1 : 0, 1);
        }
    }

    void deliver(int... links) {
        for (int link : links) {
            due("deliver(" + link + ") is possible", x.deliver(link) >= 1 ? 1 : 0, 1);
        }
    }

    /** Kind, number, phase, steps and alone of a letter. */
    void letterIs(String claim, int link, int letter, int... want) {
        for (int what = 0; what < want.length; what++) {
            due(claim + ": letter(" + link + ", " + letter + ", " + what + ")", x.letter(link, letter, what), want[what]);
        }
    }

    /** Name, sense, state, mark, phase, known number, and tally of a contender. */
    void contenderIs(String claim, int who, int... want) {
        for (int what = 0; what < want.length; what++) {
            due(claim + ": contender(" + who + ", " + what + ")", x.contender(who, what), want[what]);
        }
    }

    void countsAre(String claim, int... want) {
        for (int what = 0; what < want.length; what++) {
            due(claim + ": count(" + what + ")", x.count(what), want[what]);
        }
    }

    /** Everything about the algorithm that can be asked, but for how many actions can be undone. */
    static List<Long> algorithmOf(HeadsOfRings x) {
        List<Long> seen = new ArrayList<>();
        for (int what = 0; what <= 8; what++) {
            seen.add((long) x.count(what));
        }
        for (int kind = 0; kind <= 7; kind++) {
            seen.add((long) x.sent(kind));
        }
        for (int who = 0; who < x.count(0); who++) {
            for (int what = 0; what <= 6; what++) {
                seen.add((long) x.contender(who, what));
            }
        }
        for (int link = 0; link < 2 * x.count(0); link++) {
            seen.add((long) x.link(link));
            for (int letter = 0; letter < x.link(link); letter++) {
                for (int what = 0; what <= 4; what++) {
                    seen.add((long) x.letter(link, letter, what));
                }
            }
        }
        return seen;
    }

    /** Everything that can be asked. */
    static List<Long> lookAt(HeadsOfRings x) {
        List<Long> seen = algorithmOf(x);
        seen.add((long) x.count(9));
        seen.add((long) x.count(10));
        seen.add((long) x.fault());
        return seen;
    }
}
