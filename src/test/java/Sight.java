import java.util.ArrayList;
import java.util.Arrays;
import java.util.List;

/**
 * What can be seen of an algorithm at one moment. A test changes it by the document's words to what
 * is due after an action, and compares it with what can be seen then.
 */
final class Sight {
    static final int NAME = 0, SENSE = 1, STATE = 2, MARK = 3, PHASE = 4, KNOWN = 5, TALLY = 6;
    static final int KIND = 0, NUMBER = 1, LETTER_PHASE = 2, STEPS = 3, ALONE = 4;
    static final int NONE = -1;

    final int n;
    private final int[][] contenders;
    private final List<List<int[]>> links = new ArrayList<>();
    private final int[] sent = new int[8];

    private Sight(int n) {
        this.n = n;
        this.contenders = new int[n][7];
    }

    static Sight of(HeadsOfRings x) {
        Sight seen = new Sight(x.count(0));
        for (int who = 0; who < seen.n; who++) {
            for (int what = NAME; what <= TALLY; what++) {
                seen.contenders[who][what] = x.contender(who, what);
            }
        }
        for (int link = 0; link < 2 * seen.n; link++) {
            List<int[]> queue = new ArrayList<>();
            for (int letter = 0; letter < x.link(link); letter++) {
                int[] read = new int[5];
                for (int what = KIND; what <= ALONE; what++) {
                    read[what] = x.letter(link, letter, what);
                }
                queue.add(read);
            }
            seen.links.add(queue);
        }
        for (int kind = 0; kind <= 7; kind++) {
            seen.sent[kind] = x.sent(kind);
        }
        return seen;
    }

    int get(int who, int what) {
        return contenders[who][what];
    }

    void set(int who, int what, int value) {
        contenders[who][what] = value;
    }

    int sentOf(int kind) {
        return sent[kind];
    }

    List<Integer> inState(int state) {
        List<Integer> found = new ArrayList<>();
        for (int who = 0; who < n; who++) {
            if (get(who, STATE) == state) {
                found.add(who);
            }
        }
        return found;
    }

    /** The links that have letters, in ascending order. */
    List<Integer> busy() {
        List<Integer> found = new ArrayList<>();
        for (int link = 0; link < 2 * n; link++) {
            if (!links.get(link).isEmpty()) {
                found.add(link);
            }
        }
        return found;
    }

    List<int[]> queue(int link) {
        return links.get(link);
    }

    static boolean isForward(int link) {
        return link % 2 == 0;
    }

    int receiver(int link) {
        int from = link / 2;
        if (isForward(link)) {
            return from == n - 1 ? 0 : from + 1;
        }
        return from == 0 ? n - 1 : from - 1;
    }

    int[] take(int link) {
        return links.get(link).remove(0);
    }

    void send(int link, int kind, int number, int phase, int steps, int alone) {
        links.get(link).add(new int[] {kind, number, phase, steps, alone});
        sent[kind]++;
        sent[0]++;
    }

    void sendRight(int who, int kind, int number, int phase, int steps, int alone) {
        send(2 * who + get(who, SENSE), kind, number, phase, steps, alone);
    }

    /** Sends the letter over the receiver's link in the same direction. */
    void goOn(int link, int[] l) {
        send(2 * receiver(link) + link % 2, l[KIND], l[NUMBER], l[LETTER_PHASE], l[STEPS], l[ALONE]);
    }

    /** The link of the receiver in the opposite direction. */
    int back(int link) {
        return 2 * receiver(link) + 1 - link % 2;
    }

    /** All of it as one text: equal texts, equal sights. */
    @Override
    public String toString() {
        StringBuilder text = new StringBuilder("contenders " + Arrays.deepToString(contenders) + ", links");
        for (List<int[]> queue : links) {
            text.append(' ').append(Arrays.deepToString(queue.toArray()));
        }
        return text.append(", sent ").append(Arrays.toString(sent)).toString();
    }
}
