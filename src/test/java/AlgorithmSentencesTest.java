import java.util.ArrayList;
import java.util.List;
import java.util.Random;
import java.util.Set;
import java.util.TreeSet;

/**
 * The sentences about states and the four algorithms. Many games are played by a fixed seed; what is
 * due after each waking and each delivery is put together from the sentences that apply to it, and
 * compared with everything that can be seen. Each sentence, and each of its cases, must be met.
 */
public final class AlgorithmSentencesTest extends Bench {
    private static final int GAMES = 4000;
    /** So few that an object is never used for more than 512 calls, though all is asked before and after an action. */
    private static final int MOST_ACTIONS = 80;
    /** How many sentences with their cases stand below, but for those that are marked as never met. */
    private static final int CASES = 47;

    private final Set<String> met = new TreeSet<>();
    private final Set<String> neverMet = new TreeSet<>();
    private final List<String> applied = new ArrayList<>();
    private final List<String> actions = new ArrayList<>();

    // The game that is played; what cannot be asked is kept here: the remembered v and the number x.
    private String text;
    private int way;
    private int d;
    private int seed;
    private int[] remembered;
    private long[] drawn;

    public static void main(String[] args) {
        new AlgorithmSentencesTest().all();
    }

    private void all() {
        // One source for all games: the first numbers of neighbouring seeds are alike.
        Random random = new Random(1);
        for (int game = 1; game <= GAMES; game++) {
            play(random);
        }
        check.about("each sentence is met");
        due("cases that were met: " + String.join(" | ", met), met.size(), CASES);
        // Each contender of algorithms 3 and 4 reads one queue only, so that what it reads in which state depends
        // on who is woken in time and on the marks, not on the order of deliveries; NOTES.md tells of all of these.
        due("cases that cannot be met: " + String.join(" | ", neverMet), neverMet.size(), 0);
        check.end();
    }

    private void meets(String sentence) {
        meets(sentence, "");
    }

    private void meets(String sentence, String which) {
        met.add(sentence + which);
        applied.add(sentence);
    }

    private void meetsWhatNeverCame(String sentence, String which) {
        neverMet.add(sentence + which);
        applied.add(sentence);
    }

    private void play(Random random) {
        way = 1 + random.nextInt(4);
        d = 1 + random.nextInt(random.nextBoolean() ? 2 : 9);
        seed = 1 + random.nextInt(999999);
        text = ringFor(random, 2 + random.nextInt(5));
        actions.clear();
        make(text, way, d, seed);
        begun();
        // Some games wake nobody after the first letters, some wake one by one.
        int wakings = random.nextInt(4);
        boolean goesOn = true;
        while (goesOn && actions.size() < MOST_ACTIONS) {
            goesOn = step(random, wakings);
        }
    }

    private String ringFor(Random random, int n) {
        List<Integer> names = new ArrayList<>();
        StringBuilder made = new StringBuilder();
        boolean differ = way <= 2 && random.nextBoolean();
        boolean backward = random.nextBoolean();
        while (names.size() < n) {
            int name = 1 + random.nextInt(99);
            if (!names.contains(name)) {
                names.add(name);
                made.append(name).append((differ ? random.nextBoolean() : backward) ? "b;" : "r;");
            }
        }
        return made.toString();
    }

    private void begun() {
        Sight seen = Sight.of(x);
        remembered = new int[seen.n];
        drawn = new long[seen.n];
        says("Algorithm 4 (random marks) has a number d. Each contender i has a number x, which is seed * (i "
            + "+ 1) modulo 2147483647 when the algorithm is begun.");
        for (int i = 0; i < seen.n; i++) {
            drawn[i] = (long) seed * (i + 1) % 2147483647L;
        }
    }

    /** A waking or a delivery; false if neither is possible. */
    private boolean step(Random random, int wakings) {
        make(text, way, d, seed);
        actions.forEach(action -> Calls.make(x, action));
        Sight seen = Sight.of(x);
        List<Integer> asleep = seen.inState(0);
        List<Integer> busy = seen.busy();
        if (busy.isEmpty() && (asleep.isEmpty() || !actions.isEmpty())) {
            return false;
        }
        boolean wakes = !asleep.isEmpty() && (busy.isEmpty() || random.nextInt(4) < wakings);
        applied.clear();
        int sentBefore = seen.sentOf(0);
        if (wakes) {
            int who = asleep.get(random.nextInt(asleep.size()));
            begins(seen, who);
            compare("wake(" + who + ")", seen.sentOf(0) - sentBefore, seen);
        } else {
            int link = busy.get(random.nextInt(busy.size()));
            int kind = seen.queue(link).get(0)[Sight.KIND];
            delivered(seen, link);
            compare("deliver(" + link + ")", kind, seen);
        }
        return true;
    }

    private void compare(String action, int answer, Sight want) {
        check.about(String.join(" ", applied));
        String where = text + " begin(" + way + ", " + d + ", " + seed + ") " + String.join(" ", actions) + " ";
        due(where + action, Calls.make(x, action), answer);
        String got = Sight.of(x).toString();
        check.due(where + action + " led to " + got + ", due is " + want, got.equals(want.toString()));
        actions.add(action);
    }

    private void begins(Sight s, int who) {
        meets("A contender that is asleep can be woken: it is running then, and begins as its algorithm says.");
        int name = s.get(who, Sight.NAME);
        s.set(who, Sight.STATE, 1);
        if (way == 1) {
            meets("Algorithm 1 (greatest name): a contender begins by sending a name letter with its name to its right.");
            s.sendRight(who, 1, name, NONE, NONE, NONE);
        } else if (way == 2) {
            meets("Algorithm 2 (doubling): a contender begins with phase 0 by sending probes.");
            s.set(who, Sight.PHASE, 0);
            sendProbes(s, who);
        } else if (way == 3) {
            meets("Algorithm 3 (phases): a contender begins with phase 0 and its name as its mark by sending a "
                + "first letter with its mark to its right; it awaits a first letter then.");
            s.set(who, Sight.PHASE, 0);
            s.set(who, Sight.MARK, name);
            s.set(who, Sight.TALLY, 0);
            s.sendRight(who, 4, name, NONE, NONE, NONE);
        } else {
            meets("A contender begins with phase 1 by drawing.");
            s.set(who, Sight.PHASE, 1);
            draws(s, who);
        }
    }

    private void delivered(Sight s, int link) {
        int[] letter = s.take(link);
        int who = s.receiver(link);
        if (s.get(who, Sight.STATE) == 0) {
            meets("If a letter is delivered to one that is asleep, it becomes out before the letter is handled.");
            s.set(who, Sight.STATE, 2);
        }
        int state = s.get(who, Sight.STATE);
        if (state == 3) {
            meets("A letter that is delivered to the head disappears.", letter[Sight.KIND] == 7 ? " (crown)" : " (another)");
            return;
        }
        if (letter[Sight.KIND] == 7) {
            meets("If a crown with a number v is delivered to any other contender, it becomes informed and knows "
                + "v, its right becomes the direction in which the crown moves, and the crown goes on.");
            s.set(who, Sight.STATE, 4);
            s.set(who, Sight.KNOWN, letter[Sight.NUMBER]);
            s.set(who, Sight.SENSE, Sight.isForward(link) ? 0 : 1);
            goesOn(s, link, letter);
            return;
        }
        if (state == 4) {
            meets("All other letters are handled as the algorithm says, by one that is informed as by one that is out.");
        }
        handled(s, link, letter, state == 1);
    }

    private void handled(Sight s, int link, int[] letter, boolean running) {
        switch (letter[Sight.KIND]) {
            case 1 -> name(s, link, letter, running);
            case 2 -> probe(s, link, letter, running);
            case 3 -> reply(s, link, letter, running);
            case 4, 5 -> firstOrSecond(s, link, letter, running);
            default -> token(s, link, letter, running);
        }
    }

    private void goesOn(Sight s, int link, int[] letter) {
        meets("A letter that was delivered over an even link moves forward, otherwise it moves backward. To "
            + "let it go on means to send it over the link of the receiver in the same direction",
            Sight.isForward(link) ? " (forward)" : " (backward)");
        s.goOn(link, letter);
    }

    private void becomesHead(Sight s, int who, int v) {
        meets("To become head by v means: the contender becomes head, knows v, and sends a crown with v to its right.");
        s.set(who, Sight.STATE, 3);
        s.set(who, Sight.KNOWN, v);
        s.sendRight(who, 7, v, NONE, NONE, NONE);
    }

    private void name(Sight s, int link, int[] letter, boolean running) {
        int who = s.receiver(link);
        int v = letter[Sight.NUMBER];
        int w = s.get(who, Sight.NAME);
        if (!running) {
            meets("If a name letter v is delivered to one that is out, it goes on.");
            goesOn(s, link, letter);
            return;
        }
        meets("Running, with the name w: if v > w, it becomes out, and the letter goes on; if v < w, the "
            + "letter disappears; if v = w, it becomes head by w.",
            v > w ? " (v > w)" : v < w ? " (v < w)" : " (v = w)");
        if (v > w) {
            s.set(who, Sight.STATE, 2);
            goesOn(s, link, letter);
        } else if (v == w) {
            becomesHead(s, who, w);
        }
    }

    private void sendProbes(Sight s, int who) {
        meets("To send probes in phase k means: first forward and then backward a probe with its name, k, and "
            + "2^k steps; its count of replies is 0 then.",
            " (" + s.get(who, Sight.PHASE) + ")");
        int k = s.get(who, Sight.PHASE);
        int steps = new int[] {1, 2, 4, 8, 16}[k];
        s.send(2 * who, 2, s.get(who, Sight.NAME), k, steps, NONE);
        s.send(2 * who + 1, 2, s.get(who, Sight.NAME), k, steps, NONE);
        s.set(who, Sight.TALLY, 0);
    }

    private void probe(Sight s, int link, int[] letter, boolean running) {
        int who = s.receiver(link);
        int v = letter[Sight.NUMBER];
        int w = s.get(who, Sight.NAME);
        if (running) {
            meets("If a probe v is delivered to a running contender with the name w: if v < w, it disappears; if v "
                + "= w, the contender becomes head by w; if v > w, it becomes out and handles the probe as one "
                + "that is out.",
                v > w ? " (v > w)" : v < w ? " (v < w)" : " (v = w)");
            if (v == w) {
                becomesHead(s, who, w);
            }
            if (v <= w) {
                return;
            }
            s.set(who, Sight.STATE, 2);
        }
        int steps = letter[Sight.STEPS] - 1;
        meets("One that is out decreases the steps of the probe by 1; if they are 1 or more then, it lets the "
            + "probe go on with them; otherwise the probe disappears and it answers by a reply with v and k.",
            steps >= 1 ? " (goes on)" : " (answers)");
        if (steps >= 1) {
            goesOn(s, link, new int[] {2, v, letter[Sight.LETTER_PHASE], steps, NONE});
        } else {
            meets("to answer means to send a letter over the link of the receiver in the opposite direction",
                Sight.isForward(link) ? " (backward)" : " (forward)");
            s.send(s.back(link), 3, v, letter[Sight.LETTER_PHASE], NONE, NONE);
        }
    }

    private void reply(Sight s, int link, int[] letter, boolean running) {
        int who = s.receiver(link);
        if (letter[Sight.NUMBER] != s.get(who, Sight.NAME)) {
            meets("Any other contender lets the reply go on.");
            goesOn(s, link, letter);
            return;
        }
        int replies = s.get(who, Sight.TALLY) + 1;
        meets("If a reply v is delivered to the contender with the name v, it disappears, and if this "
            + "contender is running, its count of replies increases by 1; when it is 2, its phase increases by "
            + "1 and it sends probes.",
            !running ? " (out)" : " (" + replies + ")");
        if (running) {
            s.set(who, Sight.TALLY, replies);
            if (replies == 2) {
                s.set(who, Sight.PHASE, s.get(who, Sight.PHASE) + 1);
                sendProbes(s, who);
            }
        }
    }

    private void firstOrSecond(Sight s, int link, int[] letter, boolean running) {
        int who = s.receiver(link);
        if (!running) {
            meets("One that is out lets all letters go on.", " (" + letter[Sight.KIND] + ")");
            goesOn(s, link, letter);
        } else if (letter[Sight.KIND] != (s.get(who, Sight.TALLY) == 1 ? 5 : 4)) {
            meetsWhatNeverCame("If a letter of the kind that it does not await is delivered to one that is running, it "
                + "disappears.", "");
        } else if (letter[Sight.KIND] == 4) {
            first(s, who, letter[Sight.NUMBER]);
        } else {
            second(s, who, letter[Sight.NUMBER]);
        }
    }

    private void first(Sight s, int who, int v) {
        boolean home = v == s.get(who, Sight.MARK);
        meets("First letter v: if v is its mark, the contender becomes head by v; otherwise it remembers v, "
            + "sends a second letter with v to its right, and awaits a second letter.",
            home ? " (its mark)" : " (another)");
        if (home) {
            becomesHead(s, who, v);
        } else {
            remembered[who] = v;
            s.sendRight(who, 5, v, NONE, NONE, NONE);
            s.set(who, Sight.TALLY, 1);
        }
    }

    private void second(Sight s, int who, int u) {
        int v = remembered[who];
        boolean overMark = v > s.get(who, Sight.MARK);
        boolean overU = v > u;
        meets("Second letter u: if the remembered v is greater than its mark and greater than u, v becomes its "
            + "mark, its phase increases by 1, it sends a first letter with its mark to its right, and awaits "
            + "a first letter; otherwise it becomes out.",
            " (" + overMark + ", " + overU + ")");
        if (overMark && overU) {
            s.set(who, Sight.MARK, v);
            s.set(who, Sight.PHASE, s.get(who, Sight.PHASE) + 1);
            s.sendRight(who, 4, v, NONE, NONE, NONE);
            s.set(who, Sight.TALLY, 0);
        } else {
            s.set(who, Sight.STATE, 2);
        }
    }

    private void draws(Sight s, int who) {
        meets("To draw means: x becomes x * 16807 modulo 2147483647, the mark becomes 1 + x % d, and a token "
            + "with the phase, the mark, 1 step and alone 1 is sent to the right.");
        drawn[who] = drawn[who] * 16807 % 2147483647L;
        int mark = (int) (1 + drawn[who] % d);
        s.set(who, Sight.MARK, mark);
        s.sendRight(who, 6, mark, s.get(who, Sight.PHASE), 1, 1);
    }

    private void token(Sight s, int link, int[] letter, boolean running) {
        boolean home = letter[Sight.STEPS] == s.n;
        if (!running && home) {
            meetsWhatNeverCame("If a token with the phase p, the mark m, s steps and alone a is delivered to one that is out: "
                + "it disappears if s is n", "");
        } else if (!running) {
            meets("otherwise it goes on with s + 1 steps.");
            tokenGoesOn(s, link, letter, letter[Sight.ALONE]);
        } else if (home) {
            tokenAtHome(s, s.receiver(link), letter);
        } else {
            tokenOnItsWay(s, link, letter);
        }
    }

    private void tokenGoesOn(Sight s, int link, int[] l, int alone) {
        goesOn(s, link, new int[] {6, l[Sight.NUMBER], l[Sight.LETTER_PHASE], l[Sight.STEPS] + 1, alone});
    }

    private void tokenAtHome(Sight s, int who, int[] letter) {
        boolean alone = letter[Sight.ALONE] == 1;
        meets("To one that is running: if s is n and a is 1, the contender becomes head by m; if s is n and a "
            + "is 0, its phase increases by 1, and it draws.",
            alone ? " (1)" : " (0)");
        if (alone) {
            becomesHead(s, who, letter[Sight.NUMBER]);
        } else {
            s.set(who, Sight.PHASE, s.get(who, Sight.PHASE) + 1);
            draws(s, who);
        }
    }

    private void tokenOnItsWay(Sight s, int link, int[] letter) {
        int who = s.receiver(link);
        int phases = letter[Sight.LETTER_PHASE] - s.get(who, Sight.PHASE);
        int marks = letter[Sight.NUMBER] - s.get(who, Sight.MARK);
        if (phases != 0) {
            meetsWhatNeverCame("if p is greater than its phase", phases > 0 ? " (greater)" : " (less)");
        }
        if (phases == 0 && marks == 0) {
            meets("Otherwise, if p and m are equal to its own phase and mark, the token goes on with s + 1 steps and alone 0");
            tokenGoesOn(s, link, letter, 0);
        } else if (phases > 0 || (phases == 0 && marks > 0)) {
            meets("if p is greater than its phase, or equal to it and m greater than its mark, the contender "
                + "becomes out and the token goes on with s + 1 steps");
            s.set(who, Sight.STATE, 2);
            tokenGoesOn(s, link, letter, letter[Sight.ALONE]);
        } else {
            meets("otherwise it disappears.");
        }
    }
}
