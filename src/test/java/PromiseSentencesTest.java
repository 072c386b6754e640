import java.util.ArrayList;
import java.util.List;

/** The sentences about runs and error codes, and those of promises 2 to 18, each by the whole of its words. */
public final class PromiseSentencesTest extends Bench {
    /** Rings on which the sentences of many promises are tried; the last two have equal senses. */
    private static final List<String> RINGS = List.of("5r;9b;", "3r;6b;1r;5b;2r;4b;", "5r;9r;7r;", "3b;6b;1b;5b;2b;4b;");

    public static void main(String[] args) {
        new PromiseSentencesTest().all();
    }

    private void all() {
        runsByTheWords();
        notAndFull();
        write();
        ring();
        fault();
        begin();
        wake();
        deliver();
        run();
        contenderAndItsValues();
        link();
        letter();
        sent();
        would();
        foresee();
        sit();
        chance();
        count();
        check.end();
    }

    /** By each algorithm that the ring allows, after each of some numbers of letters. */
    private interface Look {
        void at(String where);
    }

    private void everywhere(Look look) {
        for (String ring : RINGS) {
            int ways = ring.contains("r;") && ring.contains("b;") ? 2 : 4;
            for (int way = 1; way <= ways; way++) {
                for (int letters : new int[] {0, 1, 2, 3, 5, 8, 13, 21, 34, 55, 89}) {
                    make(ring, way, 3, 77);
                    wakeAll();
                    x.run(3, 4711, letters);
                    look.at(ring + " by " + way + " after " + letters + ": ");
                }
            }
        }
    }

    /** The link from which a run delivers next, by the words; before is NONE at first. */
    private static int linkByTheWords(int order, int before, long y, List<Integer> busy) {
        if (order == 0) {
            return busy.get(0);
        }
        if (order == 1) {
            return busy.get(busy.size() - 1);
        }
        if (order == 2) {
            for (int link : busy) {
                if (link > before) {
                    return link;
                }
            }
            return busy.get(0);
        }
        return busy.get((int) (y % busy.size()));
    }

    /** Delivers letter by letter as a run would; returns how many. */
    private static int runByTheWords(HeadsOfRings other, int order, int seed, int most) {
        int before = NONE;
        long y = seed;
        for (int delivered = 0; delivered < most; delivered++) {
            List<Integer> busy = busyLinks(other);
            if (busy.isEmpty()) {
                return delivered;
            }
            y = y * 16807 % 2147483647L;
            before = linkByTheWords(order, before, y, busy);
            other.deliver(before);
        }
        return most;
    }

    private static List<Integer> busyLinks(HeadsOfRings other) {
        List<Integer> busy = new ArrayList<>();
        for (int link = 0; link < 2 * other.count(0); link++) {
            if (other.link(link) > 0) {
                busy.add(link);
            }
        }
        return busy;
    }

    private void runsByTheWords() {
        says("A run delivers letters one after the other until there are none on any link or a given number "
            + "is delivered. By order 0 each letter is taken from the least link that has letters; by 1 from "
            + "the greatest one; by 2 from the least link with letters that is greater than the link from "
            + "which this run delivered before, or, if there is none (and at first), from the least link with "
            + "letters; by 3 from the link with the index y % (number of links with letters) among the links "
            + "with letters in ascending order, where y is seed at first and becomes y * 16807 modulo "
            + "2147483647 before each delivery.");
        for (String ring : RINGS) {
            int ways = ring.contains("r;") && ring.contains("b;") ? 2 : 4;
            for (int way = 1; way <= ways; way++) {
                for (int order = 0; order <= 3; order++) {
                    for (int most : new int[] {0, 1, 2, 3, 7, 12, 13, 25}) {
                        oneRun(ring, way, order, most);
                    }
                }
            }
        }
    }

    private void oneRun(String ring, int way, int order, int most) {
        int seed = 1 + (most * 7919 + order * 104729 + way * 15485863) % 999999;
        make(ring, way, 2, seed);
        wakeAll();
        int delivered = runByTheWords(x, order, seed, most);
        List<Long> want = algorithmOf(x);
        make(ring, way, 2, seed);
        wakeAll();
        String call = ring + " by " + way + ": run(" + order + ", " + seed + ", " + most + ")";
        due(call, x.run(order, seed, most), delivered);
        check.due(call + " has delivered the letters in their order", algorithmOf(x).equals(want));
    }

    private void notAndFull() {
        says("NOT (-1000003): the call is not possible, as the method says. FULL (-1000004): a limit is reached.");
        fresh();
        due("begin(1, 1, 1) = -1000003; run(0, 1, 0) = -1000003; undo() = -1000003; would(0, 1, 0) = -1000003");
        due("foresee(1, 0) = -1000003; sit(0) = -1000003");
        make("5r;9b;", 0);
        due("begin(3, 1, 1) = -1000003; wake(0) = -1000003; deliver(0) = -1000003");
        due("begin(2, 1, 1) = 1; deliver(0) = -1000003; wake(0) = 2; wake(0) = -1000003");
        fresh();
        type("x".repeat(40));
        due("write(0) = -1000004");
        make("5r;9b;7r;1b;", 2);
        wakeAll();
        due("foresee(1, 0) = -1000004; deliver(3) = 2; deliver(4) = 2; foresee(1, 3) = 6");
    }

    private void write() {
        says("Appends a byte to the text.");
        // What was appended is read in its order, whatever was refused in between.
        fresh();
        due("write(51) = 1; write(-1) = OUTSIDE; write(52) = 2; write(256) = OUTSIDE; write(98) = 3; write(59) = 4");
        due("write(53) = 5; write(114) = 6; write(59) = 7");
        due("ring() = 2; contender(0, 0) = 34; contender(0, 1) = 1; contender(1, 0) = 5; contender(1, 1) = 0");
        says("Returns the length of the text; OUTSIDE; FULL if it already has 40 bytes.");
        fresh();
        for (int length = 1; length <= 40; length++) {
            due("write(" + (length + 47) + ")", x.write(length + 47), length);
            due("count(10)", x.count(10), length);
        }
        due("write(48) = FULL; write(-1) = OUTSIDE; count(10) = 40");
    }

    private void ring() {
        says("Reads the text as a ring, in place of the present one. No algorithm is begun then. The text is "
            + "empty then in any case.");
        everywhere(where -> {
            type("8b;77r;6b;");
            due(where + "ring()", x.ring(), 3);
            contenderIs(where, 0, 8, 1, 0, NONE, NONE, NONE, 0);
            contenderIs(where, 1, 77, 0, 0, NONE, NONE, NONE, 0);
            contenderIs(where, 2, 6, 1, 0, NONE, NONE, NONE, 0);
            countsAre(where, 3, 0, 0, 0, 0, 0, 0, 0, NONE, 0, 0);
        });
        says("Returns n; -100 - (the index of the first byte of the token) if the text has a fault (then the "
            + "ring and everything on it stay).");
        everywhere(where -> {
            List<Long> before = algorithmOf(x);
            for (int index = 0; index < 40; index++) {
                type(" ".repeat(index) + "9;");
                due(where + "no sense behind " + index, x.ring(), index == 39 ? -140 : -101 - index);
            }
            check.due(where + "all stays", algorithmOf(x).equals(before));
            due("count(10) = 0");
        });
    }

    private void fault() {
        says("Returns the number of the fault of the text that was read last.");
        fresh();
        String[] texts = {"x", "0", "1r;2r;3r;4r;5r;6r;7", "1r;2r;", "", "1r;1", "1r;2r;3r;"};
        int[] faults = {1, 2, 3, 0, 1, 2, 0};
        int last = 0;
        for (int i = 0; i < texts.length; i++) {
            type(texts[i]);
            due("before reading " + texts[i], x.fault(), last);
            x.ring();
            last = faults[i];
            due("after reading " + texts[i], x.fault(), last);
        }
        says("Returns 1 to 3; 0 if it had no fault, or none was read.");
        fresh();
        due("fault() = 0; write(120) = 1; fault() = 0; ring() = -100; fault() = 1; fault() = 1");
    }

    private void begin() {
        says("Begins an algorithm. Nothing can be undone then.");
        everywhere(where -> {
            int n = x.count(0);
            due(where + "begin(2, 1, 1)", x.begin(2, 1, 1), 1);
            countsAre(where, n, 2, 0, n, 0, 0, 0, 0, NONE, 0, 0);
            due("undo() = NOT; sent(0) = 0; sent(1) = 0; sent(2) = 0; sent(3) = 0; sent(4) = 0; sent(5) = 0; sent(6) = 0; sent(7) = 0");
            due(where + "wake(0)", x.wake(0), 2);
            letterIs(where, 0, 0, 2, x.contender(0, 0), 0, 1, NONE);
        });
        says("Returns 1; OUTSIDE; NOT if there is no ring, or for algorithm 3 or 4 not all senses of the text are equal.");
        for (int senses = 0; senses < 1 << 4; senses++) {
            StringBuilder text = new StringBuilder();
            for (int who = 0; who < 4; who++) {
                text.append(who + 1).append((senses >> who & 1) == 0 ? "r;" : "b;");
            }
            make(text.toString(), 0);
            boolean equal = senses == 0 || senses == 15;
            due("begin(1, 1, 1) = 1; begin(2, 9, 999999) = 1; begin(3, 0, 1) = OUTSIDE; begin(4, 1, 0) = OUTSIDE");
            due(text + " begin(3, 1, 1)", x.begin(3, 1, 1), equal ? 1 : NOT);
            due(text + " begin(4, 9, 9)", x.begin(4, 9, 9), equal ? 1 : NOT);
            due(text + " count(1)", x.count(1), equal ? 4 : 2);
        }
    }

    private void wake() {
        says("Wakes a contender that is asleep.");
        for (String ring : RINGS) {
            int ways = ring.contains("r;") && ring.contains("b;") ? 2 : 4;
            for (int way = 1; way <= ways; way++) {
                make(ring, way, 3, 77);
                for (int who = x.count(0) - 1; who >= 0; who--) {
                    String where = ring + " by " + way + ": wake(" + who + ")";
                    int sent = x.sent(0);
                    int letters = x.wake(who);
                    says("Returns the number of letters that it sends; UNKNOWN; NOT if no algorithm is begun or it is not "
                        + "asleep.");
                    due(where, letters, way == 2 ? 2 : 1);
                    due(where + " has sent", x.sent(0) - sent, letters);
                    due(where + " is running", x.contender(who, 2), 1);
                    due(where + " again", x.wake(who), NOT);
                    due(where + " only this one", x.count(3), who);
                }
                due("wake(-1) = UNKNOWN; wake(6) = UNKNOWN");
            }
        }
    }

    private void deliver() {
        says("Delivers the first letter of a link.");
        everywhere(where -> {
            for (int link = 0; link < 2 * x.count(0); link++) {
                int letters = x.link(link);
                int kind = x.letter(link, 0, 0);
                int all = x.count(2);
                int sent = x.sent(0);
                says("Returns the kind of the letter (see letter); UNKNOWN; NOT if there is no letter (also if no "
                    + "algorithm is begun).");
                due(where + "deliver(" + link + ")", x.deliver(link), letters == 0 ? NOT : kind);
                if (letters > 0) {
                    due(where + "link(" + link + ") after it", x.link(link), letters - 1);
                    due(where + "count(2) after it", x.count(2), all - 1 + x.sent(0) - sent);
                    x.undo();
                }
            }
            due(where + "one beyond", x.deliver(2 * x.count(0)), UNKNOWN);
        });
        make("5r;9b;", 0);
        due("deliver(0) = NOT; deliver(3) = NOT; deliver(4) = UNKNOWN; deliver(-1) = UNKNOWN");
    }

    private void run() {
        says("Makes a run.");
        everywhere(where -> {
            int all = x.count(2);
            int sent = x.sent(0);
            int undone = x.count(9);
            int delivered = x.run(2, 1, 4);
            says("Returns how many letters were delivered; OUTSIDE; NOT if no algorithm is begun.");
            due(where + "count(2) after run(2, 1, 4)", x.count(2), all - delivered + x.sent(0) - sent);
            check.due(where + "four, or all", delivered == 4 || (delivered < 4 && x.count(2) == 0));
            due(where + "count(9)", x.count(9), undone + (delivered > 0 ? 1 : 0));
            due("run(2, 1, 201) = OUTSIDE; run(4, 1, 4) = OUTSIDE; run(2, 0, 4) = OUTSIDE");
        });
    }

    private void contenderAndItsValues() {
        says("Returns a property of a contender. - contender: a contender - what: 0 its name; 1 its sense "
            + "(that of the text if no algorithm is begun); 2 its state (0 if no algorithm is begun); 3 its "
            + "mark (algorithms 3 and 4); 4 its phase (algorithms 2 to 4); 5 the number that it knows; 6 its "
            + "count of replies (algorithm 2), or 1 if it awaits a second letter (algorithm 3), otherwise 0.");
        make("5b;9b;", 0);
        contenderIs("no algorithm", 0, 5, 1, 0, NONE, NONE, NONE, 0);
        make("5b;9b;", 1);
        wakeAll();
        x.run(0, 1, 200);
        contenderIs("algorithm 1", 0, 5, 1, 4, NONE, NONE, 9, 0);
        contenderIs("algorithm 1", 1, 9, 1, 3, NONE, NONE, 9, 0);
        make("5b;9b;", 2);
        wakeAll();
        // The reply lies behind the probe of 5.
        deliver(2, 1, 1);
        contenderIs("algorithm 2", 1, 9, 1, 1, NONE, 0, NONE, 1);
        contenderIs("algorithm 2", 0, 5, 1, 2, NONE, 0, NONE, 0);
        make("5b;9b;", 3);
        wakeAll();
        deliver(3);
        contenderIs("algorithm 3", 0, 5, 1, 1, 5, 0, NONE, 1);
        contenderIs("algorithm 3", 1, 9, 1, 1, 9, 0, NONE, 0);
        make("5b;9b;", 4);
        wakeAll();
        deliver(1, 3, 3, 1);
        contenderIs("algorithm 4", 0, 5, 1, 1, 1, 2, NONE, 0);
        contenderIs("algorithm 4", 1, 9, 1, 1, 1, 2, NONE, 0);
        says("Returns that value; NONE for 3 and 4 if it has not been woken or the algorithm is another one, "
            + "and for 5 if it knows none (for 3 to 5 also if no algorithm is begun); UNKNOWN; OUTSIDE.");
        due("contender(2, 7) = UNKNOWN; contender(-1, 0) = UNKNOWN; contender(1, 7) = OUTSIDE; contender(1, -1) = OUTSIDE; contender(1, 5) = NONE");
    }

    private void link() {
        says("Returns the number of letters on a link.");
        make("5r;9b;", 0);
        due("link(0) = 0; link(1) = 0; link(2) = 0; link(3) = 0");
        make("3r;2r;1r;", 1);
        due("link(4) = 0; wake(2) = 1; link(4) = 1; wake(1) = 1; deliver(2) = 1; link(2) = 0");
        make("3r;2r;1r;", 1);
        wakeAll();
        deliver(0, 2, 2);
        due("link(0) = 0; link(1) = 0; link(2) = 0; link(3) = 0; link(4) = 3; link(5) = 0; undo() = 5; link(2) = 1; link(4) = 2");
        says("Returns the number of letters; UNKNOWN.");
        everywhere(where -> {
            int all = 0;
            for (int link = 0; link < 2 * x.count(0); link++) {
                int letters = x.link(link);
                all += letters;
                check.due(where + "its last letter is there", letters == 0 || x.letter(link, letters - 1, 0) > 0);
                due(where + "no letter behind it", x.letter(link, letters, 0), UNKNOWN);
            }
            due(where + "count(2)", x.count(2), all);
            due(where + "one beyond", x.link(2 * x.count(0)), UNKNOWN);
            due(where + "link(-1)", x.link(-1), UNKNOWN);
        });
    }

    private void letter() {
        says("Returns a property of a letter on a link. - link: a link - letter: its index in the queue, 0 "
            + "for the first one - what: 0 its kind (1 name letter, 2 probe, 3 reply, 4 first letter, 5 second "
            + "letter, 6 token, 7 crown); 1 its number (name or mark, for a crown v); 2 the phase of a probe, "
            + "reply or token; 3 the steps of a probe or token; 4 alone of a token Returns that value; NONE if "
            + "a letter of this kind has none; UNKNOWN; OUTSIDE.");
        everywhere(where -> {
            int way = x.count(1);
            for (int link = 0; link < 2 * x.count(0); link++) {
                for (int index = 0; index < x.link(link); index++) {
                    oneLetter(where + "letter(" + link + ", " + index + ", ", way, link, index);
                }
                due(where + "one beyond: letter(" + link + ", " + x.link(link) + ", 9)", x.letter(link, x.link(link), 9), UNKNOWN);
            }
            due(where + "no such link", x.letter(2 * x.count(0), 0, 0), UNKNOWN);
            due(where + "no such link", x.letter(-1, 0, 9), UNKNOWN);
        });
    }

    private void oneLetter(String call, int way, int link, int index) {
        int kind = x.letter(link, index, 0);
        boolean ofTheWay = kind == 7 || way == 1 && kind == 1 || way == 2 && (kind == 2 || kind == 3)
            || way == 3 && (kind == 4 || kind == 5) || way == 4 && kind == 6;
        check.due(call + "0) is a kind of algorithm " + way, ofTheWay);
        int number = x.letter(link, index, 1);
        check.due(call + "1) is a name or a mark", way == 4 ? number >= 1 && number <= 3 : isName(number));
        check.due(call + "2)", (x.letter(link, index, 2) != NONE) == (kind == 2 || kind == 3 || kind == 6));
        check.due(call + "3)", (x.letter(link, index, 3) != NONE) == (kind == 2 || kind == 6));
        check.due(call + "4)", (x.letter(link, index, 4) != NONE) == (kind == 6));
        due(call + "5)", x.letter(link, index, 5), OUTSIDE);
        due(call + "-1)", x.letter(link, index, -1), OUTSIDE);
    }

    private boolean isName(int number) {
        for (int who = 0; who < x.count(0); who++) {
            if (x.contender(who, 0) == number) {
                return true;
            }
        }
        return false;
    }

    private void sent() {
        says("Returns how many letters were sent since the algorithm was begun (letters that go on count each "
            + "time). - kind: 1 to 7 for those of this kind, 0 for all Returns the number of letters (0 if no "
            + "algorithm is begun); OUTSIDE.");
        everywhere(where -> {
            int all = 0;
            for (int kind = 1; kind <= 7; kind++) {
                all += x.sent(kind);
            }
            due(where + "sent(0)", x.sent(0), all);
            int[] before = new int[8];
            for (int kind = 0; kind <= 7; kind++) {
                before[kind] = x.sent(kind);
            }
            List<Integer> busy = busyLinks(x);
            if (!busy.isEmpty()) {
                sentByOneDelivery(where, busy.get(0), before);
            }
            due("sent(8) = OUTSIDE; sent(-1) = OUTSIDE");
        });
    }

    /** By kinds: what is on the links grows by what was sent, but for the letter that was delivered. */
    private void sentByOneDelivery(String where, int link, int[] before) {
        int[] onLinks = lettersOfKinds();
        int kind = x.deliver(link);
        int[] after = lettersOfKinds();
        for (int k = 1; k <= 7; k++) {
            due(where + "sent(" + k + ") by deliver(" + link + ")", x.sent(k) - before[k], after[k] - onLinks[k] + (k == kind ? 1 : 0));
        }
    }

    private int[] lettersOfKinds() {
        int[] found = new int[8];
        for (int link = 0; link < 2 * x.count(0); link++) {
            for (int index = 0; index < x.link(link); index++) {
                found[x.letter(link, index, 0)]++;
            }
        }
        return found;
    }

    private void would() {
        says("what: 0 how many letters are delivered, 1 how many are sent in it, 2 the head at the end, 3 how "
            + "many contenders are head or informed at the end, 4 whether there are no letters at the end (1 "
            + "or 0) Returns that value; NONE for what = 2 if there is no head; OUTSIDE; NOT if no algorithm "
            + "is begun.");
        everywhere(where -> {
            int[] got = new int[5];
            for (int what = 0; what <= 4; what++) {
                got[what] = x.would(3, 123456, what);
            }
            due("would(3, 123456, 5) = OUTSIDE; would(4, 1, 0) = OUTSIDE; would(3, 0, 0) = OUTSIDE");
            int sent = x.sent(0);
            due(where + "would of 0", got[0], runByTheWords(x, 3, 123456, 300));
            due(where + "would of 1", got[1], x.sent(0) - sent);
            due(where + "would of 2", got[2], x.count(8));
            due(where + "would of 3", got[3], x.count(6) + x.count(7));
            due(where + "would of 4", got[4], x.count(2) == 0 ? 1 : 0);
        });
        // Equal marks for ever.
        make("5r;9r;", 4);
        wakeAll();
        due("would(0, 1, 0) = 300; would(0, 1, 1) = 300; would(0, 1, 2) = NONE; would(0, 1, 3) = 0; would(0, 1, 4) = 0");
        make("5r;9r;", 0);
        due("would(0, 1, 2) = NOT; would(0, 1, 4) = NOT; would(0, 1, 5) = OUTSIDE");
    }

    private void foresee() {
        says("Considers all sequences of the next k deliveries, each from any link that has letters then (a "
            + "sequence ends earlier if there are no letters). Nothing is changed. - k: 1 to 3 - what: 0 the "
            + "least and 1 the greatest number of letters that are sent in one of them; 2 the number of "
            + "sequences after which there is a head; 3 the number of sequences Returns that number; OUTSIDE; "
            + "NOT if no algorithm is begun; FULL if more than 6 links have letters now.");
        everywhere(where -> {
            List<Integer> busy = busyLinks(x);
            List<Long> before = algorithmOf(x);
            for (int k = 3; k >= 1; k--) {
                int[] found = {Integer.MAX_VALUE, Integer.MIN_VALUE, 0, 0};
                int[] got = new int[4];
                for (int what = 0; what <= 3; what++) {
                    got[what] = x.foresee(k, what);
                }
                if (busy.size() <= 6) {
                    follow(k, x.sent(0), found);
                }
                for (int what = 0; what <= 3; what++) {
                    due(where + "foresee(" + k + ", " + what + ")", got[what], busy.size() > 6 ? FULL : found[what]);
                }
            }
            check.due(where + "nothing is changed", algorithmOf(x).equals(before));
            due("foresee(0, 0) = OUTSIDE; foresee(4, 0) = OUTSIDE; foresee(1, -1) = OUTSIDE; foresee(1, 4) = OUTSIDE");
        });
        make("5r;9r;", 0);
        due("foresee(1, 0) = NOT; foresee(3, 3) = NOT; foresee(4, 3) = OUTSIDE");
    }

    private void follow(int k, int sentBefore, int[] found) {
        List<Integer> busy = busyLinks(x);
        if (k == 0 || busy.isEmpty()) {
            int sent = x.sent(0) - sentBefore;
            found[0] = Math.min(found[0], sent);
            found[1] = Math.max(found[1], sent);
            found[2] += x.count(8) != NONE ? 1 : 0;
            found[3]++;
            return;
        }
        for (int link : busy) {
            x.deliver(link);
            follow(k - 1, sentBefore, found);
            x.undo();
        }
    }

    private void sit() {
        says("Considers all arrangements of the names of the ring on its places, all equally likely, and the "
            + "number of name letters that are sent by algorithm 1 if all contenders are woken before anything "
            + "is delivered and all senses are 0.");
        int[][] names = {{5, 9}, {50, 1, 99}, {7, 3, 5, 2}, {10, 20, 30, 40, 50}, {6, 5, 4, 3, 2, 1}};
        for (int[] those : names) {
            List<Integer> numbers = new ArrayList<>();
            arrange(those, 0, numbers);
            make(textFor(those, 'b'), 0);
            long sum = numbers.stream().mapToInt(Integer::intValue).sum();
            due("sit(0)", x.sit(0), numbers.stream().mapToInt(Integer::intValue).min().orElse(0));
            due("sit(1)", x.sit(1), numbers.stream().mapToInt(Integer::intValue).max().orElse(0));
            due("the mean crosswise", sum * x.sit(3), (long) x.sit(2) * numbers.size());
            check.due("in lowest terms", x.sit(3) >= 1 && commonDivisor(x.sit(2), x.sit(3)) == 1);
        }
        says("Returns that number; OUTSIDE; NOT if there is no ring.");
        due("sit(0) = 11; sit(1) = 21; sit(2) = 147; sit(3) = 10; sit(4) = OUTSIDE; sit(-1) = OUTSIDE");
        fresh();
        due("sit(0) = NOT; sit(1) = NOT; sit(2) = NOT; sit(3) = NOT; sit(4) = OUTSIDE; sit(-1) = OUTSIDE");
    }

    private static String textFor(int[] names, char sense) {
        StringBuilder text = new StringBuilder();
        for (int name : names) {
            text.append(name).append(sense).append(';');
        }
        return text.toString();
    }

    /** The numbers of name letters of all arrangements, each by an election of its own. */
    private void arrange(int[] names, int fixed, List<Integer> numbers) {
        if (fixed == names.length) {
            make(textFor(names, 'r'), 1);
            wakeAll();
            x.run(3, 1 + numbers.size(), 200);
            numbers.add(x.sent(1));
        }
        for (int i = fixed; i < names.length; i++) {
            int[] next = names.clone();
            next[fixed] = names[i];
            next[i] = names[fixed];
            arrange(next, fixed + 1, numbers);
        }
    }

    private static long commonDivisor(long a, long b) {
        return b == 0 ? a : commonDivisor(b, a % b);
    }

    private void chance() {
        says("Returns a part of a probability: m contenders draw marks from 1 to d, all equally likely; those "
            + "with the greatest mark draw again, if they are more than one, and so on. The result is the "
            + "probability that after k draws only one is left (with m = 1 this is so at once). - m: 1 to 5 - "
            + "d: 1 to 3 - k: 0 to 4 - what: 0 numerator, 1 denominator, in lowest terms (0 is 0 / 1) Returns "
            + "that part; OUTSIDE.");
        fresh();
        for (int m = 1; m <= 5; m++) {
            for (int d = 1; d <= 3; d++) {
                for (int k = 0; k <= 4; k++) {
                    // Each draw is by five, of whom those that are out do not count: d^5 ways, all equally likely.
                    long ways = waysToOne(m, d, k);
                    long all = Math.round(Math.pow(d, 5.0 * k));
                    long divisor = commonDivisor(ways, all);
                    String call = "chance(" + m + ", " + d + ", " + k;
                    due(call + ", 0)", x.chance(m, d, k, 0), ways / divisor);
                    due(call + ", 1)", x.chance(m, d, k, 1), all / divisor);
                }
            }
        }
        due("chance(0, 1, 0, 0) = OUTSIDE; chance(6, 1, 0, 0) = OUTSIDE; chance(1, 0, 0, 0) = OUTSIDE; chance(1, 4, 0, 0) = OUTSIDE");
        due("chance(1, 1, -1, 0) = OUTSIDE; chance(1, 1, 5, 0) = OUTSIDE; chance(1, 1, 0, -1) = OUTSIDE; chance(1, 1, 0, 2) = OUTSIDE");
    }

    private static long waysToOne(int left, int d, int k) {
        if (k == 0) {
            return left == 1 ? 1 : 0;
        }
        long[] then = new long[6];
        for (int rest = 1; rest <= left; rest++) {
            then[rest] = waysToOne(rest, d, k - 1);
        }
        long sum = 0;
        long all = Math.round(Math.pow(d, 5));
        for (int draw = 0; draw < all; draw++) {
            int greatest = 0;
            int many = 0;
            for (int i = 0, marks = draw; i < 5; i++, marks /= d) {
                int mark = i < left ? 1 + marks % d : 0;
                many = mark > greatest ? 1 : mark == greatest ? many + 1 : many;
                greatest = Math.max(greatest, mark);
            }
            sum += then[many];
        }
        return sum;
    }

    private void count() {
        says("Returns a number. - what: 0 contenders, 1 the algorithm (0 if none is begun), 2 letters on all "
            + "links; contenders that are 3 asleep, 4 running, 5 out, 6 head, 7 informed; 8 the head, 9 how "
            + "many actions can be undone, 10 bytes of the text (2 to 7 and 9 are 0 if no algorithm is begun) "
            + "Returns that number; NONE for what = 8 if there is no head; OUTSIDE.");
        everywhere(where -> {
            type("5r;9");
            Sight seen = Sight.of(x);
            due(where + "count(0)", x.count(0), seen.n);
            for (int state = 0; state <= 4; state++) {
                due(where + "count(" + (3 + state) + ")", x.count(3 + state), seen.inState(state).size());
            }
            due(where + "count(8)", x.count(8), seen.inState(3).isEmpty() ? NONE : seen.inState(3).get(0));
            due("count(10) = 4; count(-1) = OUTSIDE; count(11) = OUTSIDE");
            int actions = x.count(9);
            for (int left = actions - 1; left >= 0; left--) {
                due(where + "undo()", x.undo(), left);
            }
            due("undo() = NOT; count(9) = 0; count(10) = 4");
        });
        for (int way = 1; way <= 4; way++) {
            make("5r;9r;", 0);
            due("count(1) = 0; count(2) = 0; count(3) = 0; begin(" + way + ", 1, 1) = 1; count(1) = " + way + "; count(3) = 2");
        }
    }
}
