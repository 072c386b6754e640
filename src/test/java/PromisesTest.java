/** Each promise of the document by itself: ordinary inputs, the edges that it names, wrong inputs. */
public final class PromisesTest extends Bench {
    public static void main(String[] args) {
        new PromisesTest().all();
    }

    private void all() {
        newObject();
        write();
        ringTexts();
        ringAndWhatIsOnIt();
        staleBytes();
        sixContenders();
        begin();
        wake();
        deliver();
        deliverToAsleepAndHead();
        greatestNameWithSenses();
        doubling();
        phases();
        randomMarks();
        randomMarksAgain();
        runOrders();
        runEdges();
        undo();
        undoTwenty();
        contender();
        link();
        letter();
        sent();
        would();
        wouldLong();
        foresee();
        foreseeFull();
        sit();
        chance();
        count();
        check.end();
    }

    private void newObject() {
        x = new HeadsOfRings();
        for (int what = 0; what <= 10; what++) {
            due("new: count(" + what + ")", x.count(what), what == 8 ? NONE : 0);
        }
        due("new: fault()", x.fault(), 0);
        due("new: contender(0, 0)", x.contender(0, 0), UNKNOWN);
        HeadsOfRings other = new HeadsOfRings();
        x.write(49);
        due("objects are apart: count(10)", other.count(10), 0);
    }

    private void write() {
        x = new HeadsOfRings();
        for (int wrong : new int[] {-1, 256, LEAST, GREATEST}) {
            due("write(" + wrong + ")", x.write(wrong), OUTSIDE);
        }
        due("write(0)", x.write(0), 1);
        due("write(255)", x.write(255), 2);
        for (int i = 3; i <= 40; i++) {
            due("write(32) number " + i, x.write(32), i);
        }
        due("write(32) number 41", x.write(32), FULL);
        due("write(256) when full", x.write(256), OUTSIDE);
        due("count(10) when full", x.count(10), 40);
        due("ring() of byte 0", x.ring(), -100);
        due("count(10) after ring()", x.count(10), 0);
        due("write(32) after ring()", x.write(32), 1);
    }

    private void text(String text, int answer, int fault) {
        x = new HeadsOfRings();
        type(text);
        due("ring() of '" + text + "'", x.ring(), answer);
        due("fault() of '" + text + "'", x.fault(), fault);
        due("count(0) of '" + text + "'", x.count(0), answer > 0 ? answer : 0);
        due("count(10) of '" + text + "'", x.count(10), 0);
    }

    private void ringTexts() {
        text("", -100, 1);
        text("   ", -103, 1);
        text("7", -101, 1);
        text("7r", -102, 1);
        text("7r;", -103, 1);
        text("7r;  ", -105, 1);
        text("7r; 8", -105, 1);
        text("7r;8b", -105, 1);
        text("7r;8b;", 2, 0);
        text("  7 r ; 8 b ;  ", 2, 0);
        text("7r;8b;9", -107, 1);
        text("7r;8b;9r", -108, 1);
        text("7r;8b;x", -106, 1);
        text("7r;8b;;", -106, 1);
        text("r;", -100, 1);
        text(" ;", -101, 1);
        text("7;", -101, 1);
        text("7R;8r;", -101, 1);
        text("7rr", -102, 1);
        text("7r8", -102, 1);
        text("7 8r;", -102, 1);
        text("\t7r;8b;", -100, 1);
        text("7/;", -101, 1);
        text("7:;", -101, 1);
        text("0r;", -100, 2);
        text("00r;", -100, 2);
        text("007r;8r;", -100, 2);
        text("100r;8r;", -100, 2);
        text("4294967297r;8r;", -100, 2);
        text("1r;4294967298r;", -103, 2);
        text("99r;1b;", 2, 0);
        text("09r;01b;", 2, 0);
        text("7r;07b;", -103, 2);
        text("7r;8r; 7b;", -107, 2);
        String six = "1r;2b;3r;4b;5r;6b;";
        text(six, 6, 0);
        text(six + "  ", 6, 0);
        text(six + "7", -118, 3);
        text(six + "  7r;", -120, 3);
        text(six + "6", -118, 2);
        text(six + "0", -118, 2);
        text(six + "100", -118, 2);
        text(six + ";", -118, 1);
        text(six + "r", -118, 1);
        text("11r;12r;13r;14r;15r;16r;                ", 6, 0);
        text("0000000000000000000000000000000000000000", -100, 2);
    }

    private void ringAndWhatIsOnIt() {
        make("5r;9b;", 1);
        x.wake(0);
        type("1r;");
        due("a fault: ring()", x.ring(), -103);
        due("after a fault: fault()", x.fault(), 1);
        due("after a fault: count(0)", x.count(0), 2);
        due("after a fault: count(1)", x.count(1), 1);
        due("after a fault: count(2)", x.count(2), 1);
        due("after a fault: count(9)", x.count(9), 1);
        due("after a fault: contender(1, 0)", x.contender(1, 0), 9);
        type("3b;4r;8r;");
        due("fault() before ring()", x.fault(), 1);
        due("another ring: ring()", x.ring(), 3);
        due("another ring: fault()", x.fault(), 0);
        due("another ring: count(1)", x.count(1), 0);
        due("another ring: count(2)", x.count(2), 0);
        due("another ring: count(3)", x.count(3), 0);
        due("another ring: count(9)", x.count(9), 0);
        due("another ring: sent(0)", x.sent(0), 0);
        due("another ring: undo()", x.undo(), NOT);
        due("another ring: run(0, 1, 1)", x.run(0, 1, 1), NOT);
        contenderIs("another ring", 0, 3, 1, 0, NONE, NONE, NONE, 0);
        contenderIs("another ring", 2, 8, 0, 0, NONE, NONE, NONE, 0);
        due("fault() stays", x.fault(), 0);
        type("3b;4r;");
        due("a smaller ring: ring()", x.ring(), 2);
        due("a smaller ring: contender(2, 0)", x.contender(2, 0), UNKNOWN);
        due("a smaller ring: link(4)", x.link(4), UNKNOWN);
    }

    private void staleBytes() {
        x = new HeadsOfRings();
        type("11111111111111111111");
        due("twenty figures: ring()", x.ring(), -100);
        type("7r;8");
        due("what an earlier text had behind the end: ring()", x.ring(), -104);
        type("                    ");
        due("twenty blanks: ring()", x.ring(), -120);
        type("7r;8b;");
        due("what an earlier text had behind the end: ring()", x.ring(), 2);
        type("7r;8b;9r;");
        x.ring();
        type("7r;");
        due("what an earlier text had behind the end: ring()", x.ring(), -103);
    }

    private void sixContenders() {
        make("11r;22b;33r;44b;55r;66b;", 2);
        for (int i = 0; i < 6; i++) {
            due("wake(" + i + ")", x.wake(i), 2);
        }
        for (int i = 0; i < 6; i++) {
            contenderIs("one of six", i, 11 * (i + 1), i % 2, 1, NONE, 0, NONE, 0);
        }
        due("twelve letters: count(2)", x.count(2), 12);
        due("all of them: sent(2)", x.sent(2), 12);
        // Each lesser neighbour answers a probe; each greater one lets it disappear.
        for (int l = 0; l < 12; l++) {
            due("deliver(" + l + ")", x.deliver(l), 2);
        }
        due("count(4)", x.count(4), 1);
        due("sent(3)", x.sent(3), 6);
        // The replies; phases 1 and 2 there and back; phase 3 all round in both directions; the crown.
        due("run(1, 1, 200)", x.run(1, 1, 200), 6 + 2 * 4 + 2 * 8 + 2 * 6 + 6);
        due("count(8)", x.count(8), 5);
        due("count(7)", x.count(7), 5);
        due("the sixth knows: contender(5, 5)", x.contender(5, 5), 66);
    }

    private void begin() {
        make("5r;9b;", 0);
        int[][] wrong = {{0, 1, 1}, {5, 1, 1}, {1, 0, 1}, {1, 10, 1}, {1, 1, 0}, {1, 1, 1000000}, {LEAST, 1, 1},
            {2, GREATEST, 1}, {4, 1, LEAST}, {3, 0, 1}};
        for (int[] w : wrong) {
            due("begin(" + w[0] + ", " + w[1] + ", " + w[2] + ")", x.begin(w[0], w[1], w[2]), OUTSIDE);
        }
        due("begin(1, 9, 999999)", x.begin(1, 9, 999999), 1);
        due("count(1)", x.count(1), 1);
        x.wake(0);
        due("senses differ: begin(3, 1, 1)", x.begin(3, 1, 1), NOT);
        due("senses differ: begin(4, 1, 1)", x.begin(4, 1, 1), NOT);
        due("a failed begin leaves count(2)", x.count(2), 1);
        due("a failed begin leaves count(9)", x.count(9), 1);
        due("begin(2, 1, 1)", x.begin(2, 1, 1), 1);
        due("begun again: count(1)", x.count(1), 2);
        due("begun again: count(2)", x.count(2), 0);
        due("begun again: count(3)", x.count(3), 2);
        due("begun again: count(9)", x.count(9), 0);
        due("begun again: sent(0)", x.sent(0), 0);
        due("begun again: undo()", x.undo(), NOT);
        // A crown turns contender 1; the next algorithm has the senses of the text again.
        x.wake(0);
        x.deliver(0);
        x.deliver(3);
        due("a reply: contender(0, 6)", x.contender(0, 6), 1);
        x.begin(1, 1, 1);
        due("begun again: contender(0, 6)", x.contender(0, 6), 0);
        x.wake(0);
        x.run(0, 1, 200);
        due("turned: contender(1, 1)", x.contender(1, 1), 0);
        due("senses of the text still differ: begin(3, 1, 1)", x.begin(3, 1, 1), NOT);
        x.begin(1, 1, 1);
        due("begun again: sent(7)", x.sent(7), 0);
        contenderIs("begun again", 1, 9, 1, 0, NONE, NONE, NONE, 0);
        make("5b;9b;", 3);
        make("5b;9b;", 4);
    }

    private void wake() {
        make("5r;9b;", 0);
        due("no algorithm: wake(0)", x.wake(0), NOT);
        due("no algorithm: wake(2)", x.wake(2), UNKNOWN);
        x.begin(1, 1, 1);
        for (int wrong : new int[] {-1, 2, LEAST, GREATEST}) {
            due("wake(" + wrong + ")", x.wake(wrong), UNKNOWN);
        }
        due("by algorithm 1: wake(0)", x.wake(0), 1);
        x.undo();
        due("by algorithm 1: wake(1)", x.wake(1), 1);
        letterIs("to the right of one with sense 1", 3, 0, 1, 9, NONE, NONE, NONE);
        contenderIs("woken by algorithm 1", 1, 9, 1, 1, NONE, NONE, NONE, 0);
        due("running: wake(1)", x.wake(1), NOT);
        x.deliver(3);
        due("out: wake(0)", x.wake(0), NOT);
        x.begin(2, 1, 1);
        due("by algorithm 2: wake(1)", x.wake(1), 2);
        letterIs("a probe forward", 2, 0, 2, 9, 0, 1, NONE);
        letterIs("a probe backward", 3, 0, 2, 9, 0, 1, NONE);
        contenderIs("woken by algorithm 2", 1, 9, 1, 1, NONE, 0, NONE, 0);
        make("5b;9b;", 3);
        due("by algorithm 3: wake(0)", x.wake(0), 1);
        letterIs("a first letter", 1, 0, 4, 5, NONE, NONE, NONE);
        contenderIs("woken by algorithm 3", 0, 5, 1, 1, 5, 0, NONE, 0);
        x.begin(4, 9, 999999);
        due("by algorithm 4: wake(1)", x.wake(1), 1);
        int mark = (int) (1 + 999999L * 2 * 16807 % 2147483647L % 9);
        letterIs("a token", 3, 0, 6, mark, 1, 1, 1);
        contenderIs("woken by algorithm 4", 1, 9, 1, 1, mark, 1, NONE, 0);
    }

    private void deliver() {
        x = new HeadsOfRings();
        due("no ring: deliver(0)", x.deliver(0), UNKNOWN);
        make("5r;9r;", 0);
        due("no algorithm: deliver(0)", x.deliver(0), NOT);
        x.begin(1, 1, 1);
        for (int wrong : new int[] {-1, 4, LEAST, GREATEST}) {
            due("deliver(" + wrong + ")", x.deliver(wrong), UNKNOWN);
        }
        due("nothing there: deliver(3)", x.deliver(3), NOT);
        due("nothing there: count(9)", x.count(9), 0);
        wakeAll();
        due("the lesser name disappears: deliver(0)", x.deliver(0), 1);
        due("count(2)", x.count(2), 1);
        due("the greater one goes on: deliver(2)", x.deliver(2), 1);
        due("contender(0, 2)", x.contender(0, 2), 2);
        letterIs("the greater one", 0, 0, 1, 9);
        due("its own name: deliver(0)", x.deliver(0), 1);
        contenderIs("head", 1, 9, 0, 3, NONE, NONE, 9, 0);
        letterIs("the crown", 2, 0, 7, 9, NONE, NONE, NONE);
        due("the crown: deliver(2)", x.deliver(2), 7);
        contenderIs("informed", 0, 5, 0, 4, NONE, NONE, 9, 0);
        due("the crown at the head: deliver(0)", x.deliver(0), 7);
        due("at the end: count(2)", x.count(2), 0);
    }

    private void deliverToAsleepAndHead() {
        make("5r;9r;7r;", 1);
        x.wake(0);
        x.deliver(0);
        contenderIs("asleep, then out", 1, 9, 0, 2, NONE, NONE, NONE, 0);
        letterIs("a lesser name goes on from one that is out", 2, 0, 1, 5);
        x.wake(2);
        due("a lesser name at 7: deliver(2)", x.deliver(2), 1);
        due("it disappears: link(4)", x.link(4), 1);
        x.deliver(4);
        x.deliver(0);
        x.deliver(2);
        due("7 is head: count(8)", x.count(8), 2);
        // The first in, first out: two letters on one link, and queues of different directions.
        make("9b;5r;", 1);
        x.wake(1);
        x.wake(0);
        due("link(1) before", x.link(1), 1);
        x.deliver(2);
        due("5 disappears at 9: count(2)", x.count(2), 1);
        x.deliver(1);
        due("9 goes on backward: link(3)", x.link(3), 1);
        make("1r;2r;9r;", 1);
        wakeAll();
        x.deliver(4);
        due("two on one link: link(0)", x.link(0), 2);
        letterIs("the first in", 0, 0, 1, 1);
        letterIs("the second in", 0, 1, 1, 9);
        due("one beyond: letter(0, 2, 0)", x.letter(0, 2, 0), UNKNOWN);
        x.deliver(0);
        letterIs("the first out is the first in", 0, 0, 1, 9);
    }

    private void greatestNameWithSenses() {
        make("5r;9b;7r;", 1);
        x.wake(1);
        x.wake(2);
        due("7 goes forward: link(4)", x.link(4), 1);
        due("9 goes backward: link(3)", x.link(3), 1);
        due("run(0, 1, 200)", x.run(0, 1, 200), 8);
        contenderIs("head by a letter that moved backward", 1, 9, 1, 3, NONE, NONE, 9, 0);
        contenderIs("turned", 0, 5, 1, 4, NONE, NONE, 9, 0);
        contenderIs("turned", 2, 7, 1, 4, NONE, NONE, 9, 0);
        due("crowns: sent(7)", x.sent(7), 3);
    }

    private void doubling() {
        make("5r;9r;7b;", 2);
        x.wake(1);
        x.deliver(2);
        letterIs("out answers when no steps are left", 5, 0, 3, 9, 0, NONE, NONE);
        due("asleep, then out: contender(2, 2)", x.contender(2, 2), 2);
        due("the reply comes: deliver(5)", x.deliver(5), 3);
        contenderIs("one reply", 1, 9, 0, 1, NONE, 0, NONE, 1);
        x.deliver(3);
        due("the other reply: deliver(0)", x.deliver(0), 3);
        contenderIs("two replies", 1, 9, 0, 1, NONE, 1, NONE, 0);
        letterIs("a probe of phase 1", 2, 0, 2, 9, 1, 2, NONE);
        letterIs("a probe of phase 1", 3, 0, 2, 9, 1, 2, NONE);
        x.deliver(2);
        letterIs("it goes on with a step less", 4, 0, 2, 9, 1, 1, NONE);
        x.deliver(4);
        letterIs("the answer from afar", 1, 0, 3, 9, 1);
        due("another one lets the reply go on: deliver(1)", x.deliver(1), 3);
        letterIs("the reply has gone on", 5, 0, 3, 9, 1, NONE, NONE);
        due("run(0, 1, 200)", x.run(0, 1, 200), 14);
        contenderIs("head", 1, 9, 0, 3, NONE, 2, 9, 0);
        contenderIs("never woken", 0, 5, 0, 4, NONE, NONE, 9, 0);
        contenderIs("turned", 2, 7, 0, 4, NONE, NONE, 9, 0);
        make("5r;9r;", 2);
        wakeAll();
        x.deliver(0);
        due("the lesser probe disappears: count(2)", x.count(2), 3);
        x.deliver(3);
        contenderIs("out by a greater probe", 0, 5, 0, 2, NONE, 0, NONE, 0);
        due("it answers: link(0)", x.link(0), 1);
        x.deliver(2);
        x.deliver(0);
        due("own count: contender(1, 6)", x.contender(1, 6), 1);
        // The reply to one that is no longer running disappears.
        make("9r;5r;7r;", 2);
        x.wake(1);
        x.deliver(2);
        x.wake(0);
        x.deliver(0);
        contenderIs("out while a reply is under way", 1, 5, 0, 2, NONE, 0, NONE, 0);
        int before = x.count(2);
        due("a reply to one that is out: deliver(5)", x.deliver(5), 3);
        due("it disappears: count(2)", x.count(2), before - 1);
        due("it does not count: contender(1, 6)", x.contender(1, 6), 0);
    }

    private void phases() {
        make("5b;9b;", 3);
        wakeAll();
        due("first: deliver(3)", x.deliver(3), 4);
        contenderIs("awaits a second letter", 0, 5, 1, 1, 5, 0, NONE, 1);
        letterIs("what it remembers", 1, 1, 5, 9, NONE, NONE, NONE);
        x.deliver(1);
        letterIs("the other one's", 3, 0, 5, 5);
        due("second: deliver(3)", x.deliver(3), 5);
        contenderIs("a new mark", 0, 5, 1, 1, 9, 1, NONE, 0);
        letterIs("a first letter with it", 1, 1, 4, 9);
        x.deliver(1);
        contenderIs("out, and all stays", 1, 9, 1, 2, 9, 0, NONE, 1);
        due("first at one that is out: deliver(1)", x.deliver(1), 4);
        due("its mark: deliver(3)", x.deliver(3), 4);
        contenderIs("head by its mark", 0, 5, 1, 3, 9, 1, 9, 0);
        due("the rest: run(0, 1, 200)", x.run(0, 1, 200), 2);
        contenderIs("informed, and all stays", 1, 9, 1, 4, 9, 0, 9, 1);
        make("9r;5r;7r;", 3);
        x.wake(0);
        due("alone: run(1, 1, 200)", x.run(1, 1, 200), 6);
        contenderIs("head alone", 0, 9, 0, 3, 9, 0, 9, 0);
        contenderIs("never woken", 1, 5, 0, 4, NONE, NONE, 9, 0);
    }

    private void randomMarks() {
        // By seed 11 and d 2 the marks are 2, 1, 2.
        make("1r;2r;3r;", 0);
        x.begin(4, 2, 11);
        wakeAll();
        x.deliver(0);
        contenderIs("out by a greater mark", 1, 2, 0, 2, 1, 1, NONE, 0);
        letterIs("a step more, still alone", 2, 1, 6, 2, 1, 2, 1);
        x.deliver(2);
        due("the lesser mark disappears: count(2)", x.count(2), 2);
        x.deliver(2);
        letterIs("an equal mark: not alone", 4, 1, 6, 2, 1, 3, 0);
        due("the token of 2: deliver(4)", x.deliver(4), 6);
        letterIs("an equal mark: not alone", 0, 0, 6, 2, 1, 2, 0);
        due("home: deliver(4)", x.deliver(4), 6);
        long drawn = 11L * 16807 % 2147483647L * 16807 % 2147483647L;
        int mark = (int) (1 + drawn % 2);
        contenderIs("phase 2", 0, 1, 0, 1, mark, 2, NONE, 0);
        letterIs("a token of phase 2", 0, 1, 6, mark, 2, 1, 1);
        due("run(0, 1, 200)", x.run(0, 1, 200), 10);
        due("the head: count(8)", x.count(8), 2);
        due("the mark is known: contender(0, 5)", x.contender(0, 5), x.contender(2, 3));
    }

    private void randomMarksAgain() {
        make("1b;2b;", 0);
        x.begin(4, 1, 5);
        x.wake(0);
        x.deliver(1);
        letterIs("asleep, then out", 3, 0, 6, 1, 1, 2, 1);
        due("alone and home: deliver(3)", x.deliver(3), 6);
        contenderIs("head by its mark", 0, 1, 1, 3, 1, 1, 1, 0);
        // Equal marks: both come home, the one behind the other, and draw again.
        x.begin(4, 1, 5);
        wakeAll();
        x.deliver(1);
        x.deliver(3);
        x.deliver(3);
        due("phase 2: contender(0, 4)", x.contender(0, 4), 2);
        letterIs("its token behind the old one", 1, 0, 6, 1, 1, 2, 0);
        letterIs("its token behind the old one", 1, 1, 6, 1, 2, 1, 1);
        x.deliver(1);
        due("phase 2 too: contender(1, 4)", x.contender(1, 4), 2);
        x.undo();
        due("d = 1 never ends: run(0, 1, 200)", x.run(0, 1, 200), 200);
        due("two tokens for ever: count(2)", x.count(2), 2);
    }

    private int[] firstLinks(int order, int seed, int most) {
        int[] links = new int[most];
        for (int done = 1; done <= most; done++) {
            int[] before = new int[x.count(0) * 2];
            x.run(order, seed, done - 1);
            for (int l = 0; l < before.length; l++) {
                before[l] = x.link(l);
            }
            if (done > 1) {
                x.undo();
            }
            x.run(order, seed, done);
            links[done - 1] = NONE;
            for (int l = 0; l < before.length; l++) {
                links[done - 1] = x.link(l) < before[l] ? l : links[done - 1];
            }
            x.undo();
        }
        return links;
    }

    private void linksAre(String claim, int[] got, int... want) {
        for (int i = 0; i < want.length; i++) {
            due(claim + ", delivery " + (i + 1) + " from link", got[i], want[i]);
        }
    }

    private void runOrders() {
        make("1r;2r;9r;", 1);
        wakeAll();
        linksAre("order 0", firstLinks(0, 1, 4), 0, 2, 4, 0);
        linksAre("order 1", firstLinks(1, 1, 4), 4, 2, 0, 0);
        linksAre("order 2", firstLinks(2, 1, 4), 0, 2, 4, 0);
        // 16807 % 3 = 1, then 282475249 % 2 = 1 among links 0 and 4, then 1622650073 % 1.
        linksAre("order 3", firstLinks(3, 1, 3), 2, 4, 0);
        make("1r;2r;3r;9b;8b;", 2);
        wakeAll();
        linksAre("order 1", firstLinks(1, 1, 3), 9, 8, 7);
        // Order 2 goes on behind the link before, though lesser links have letters again.
        linksAre("order 2", firstLinks(2, 1, 11), 0, 1, 2, 3, 4, 5, 6, 7, 8, 9, 0);
        // The fourth delivery puts a reply on link 0; the next run begins with it, not with link 4.
        x.run(2, 1, 4);
        linksAre("order 2 begins anew in each run", firstLinks(2, 1, 1), 0);
    }

    private void runEdges() {
        make("5r;9r;", 0);
        due("no algorithm: run(0, 1, 1)", x.run(0, 1, 1), NOT);
        due("no algorithm: run(0, 1, 201)", x.run(0, 1, 201), OUTSIDE);
        x.begin(1, 1, 1);
        int[][] wrong = {{-1, 1, 1}, {4, 1, 1}, {0, 0, 1}, {0, 1000000, 1}, {0, 1, -1}, {0, 1, 201},
            {LEAST, 1, 1}, {3, GREATEST, 1}, {1, 1, GREATEST}};
        for (int[] w : wrong) {
            due("run(" + w[0] + ", " + w[1] + ", " + w[2] + ")", x.run(w[0], w[1], w[2]), OUTSIDE);
        }
        due("no letters: run(3, 999999, 200)", x.run(3, 999999, 200), 0);
        wakeAll();
        due("run(0, 1, 0)", x.run(0, 1, 0), 0);
        due("nothing delivered, nothing to undo: count(9)", x.count(9), 2);
        due("run(0, 1, 2)", x.run(0, 1, 2), 2);
        due("count(9)", x.count(9), 3);
        due("run(0, 1, 200)", x.run(0, 1, 200), 3);
        due("run(0, 1, 200) again", x.run(0, 1, 200), 0);
        due("count(9)", x.count(9), 4);
    }

    private void undo() {
        make("5r;9b;", 1);
        due("nothing yet: undo()", x.undo(), NOT);
        x.wake(0);
        x.wake(1);
        x.deliver(3);
        x.run(0, 1, 200);
        due("turned: contender(0, 1)", x.contender(0, 1), 1);
        due("undo() of the run", x.undo(), 3);
        contenderIs("before the run", 0, 5, 0, 2, NONE, NONE, NONE, 0);
        due("before the run: sent(0)", x.sent(0), 3);
        due("before the run: sent(7)", x.sent(7), 0);
        due("undo() of the delivery", x.undo(), 2);
        due("before the delivery: contender(0, 2)", x.contender(0, 2), 1);
        letterIs("before the delivery", 3, 0, 1, 9);
        due("before the delivery: sent(0)", x.sent(0), 2);
        due("undo() of waking 1", x.undo(), 1);
        due("undo() of waking 0", x.undo(), 0);
        due("all asleep: count(3)", x.count(3), 2);
        due("no letters: count(2)", x.count(2), 0);
        due("none is left: undo()", x.undo(), NOT);
        due("still begun: count(1)", x.count(1), 1);
        // The numbers that are drawn go back too.
        make("5r;9r;", 0);
        x.begin(4, 9, 77);
        x.wake(0);
        int mark = x.contender(0, 3);
        x.undo();
        due("before drawing: contender(0, 3)", x.contender(0, 3), NONE);
        x.wake(0);
        due("drawn again: contender(0, 3)", x.contender(0, 3), mark);
    }

    private void undoTwenty() {
        make("1r;2r;", 4);
        wakeAll();
        for (int i = 0; i < 23; i++) {
            x.run(0, 1, 1);
            due("count(9) after " + (i + 3) + " actions", x.count(9), Math.min(20, i + 3));
        }
        int phase = x.contender(0, 4);
        due("undo()", x.undo(), 19);
        x.run(0, 1, 1);
        due("done again: contender(0, 4)", x.contender(0, 4), phase);
        for (int left = 19; left >= 0; left--) {
            due("undo()", x.undo(), left);
        }
        due("only twenty: undo()", x.undo(), NOT);
        due("three deliveries and the wakings stay: sent(0)", x.sent(0), 5);
    }

    private void contender() {
        x = new HeadsOfRings();
        due("no ring: contender(0, 9)", x.contender(0, 9), UNKNOWN);
        make("5r;9b;", 0);
        contenderIs("no algorithm", 1, 9, 1, 0, NONE, NONE, NONE, 0);
        for (int wrong : new int[] {-1, 7, LEAST, GREATEST}) {
            due("contender(0, " + wrong + ")", x.contender(0, wrong), OUTSIDE);
            due("contender(2, " + wrong + ")", x.contender(2, wrong), UNKNOWN);
        }
        for (int wrong : new int[] {-1, 2, LEAST, GREATEST}) {
            due("contender(" + wrong + ", 0)", x.contender(wrong, 0), UNKNOWN);
        }
    }

    private void link() {
        x = new HeadsOfRings();
        due("no ring: link(0)", x.link(0), UNKNOWN);
        make("5r;9b;7r;", 0);
        due("no algorithm: link(5)", x.link(5), 0);
        for (int wrong : new int[] {-1, 6, LEAST, GREATEST}) {
            due("link(" + wrong + ")", x.link(wrong), UNKNOWN);
        }
        x.begin(1, 1, 1);
        wakeAll();
        int[] want = {1, 0, 0, 1, 1, 0};
        for (int l = 0; l < 6; l++) {
            due("link(" + l + ")", x.link(l), want[l]);
        }
    }

    private void letter() {
        x = new HeadsOfRings();
        due("no ring: letter(0, 0, 0)", x.letter(0, 0, 0), UNKNOWN);
        make("5r;9r;", 0);
        due("no algorithm: letter(0, 0, 9)", x.letter(0, 0, 9), UNKNOWN);
        x.begin(1, 1, 1);
        x.wake(0);
        for (int wrong : new int[] {-1, 4, LEAST, GREATEST}) {
            due("letter(" + wrong + ", 0, 0)", x.letter(wrong, 0, 0), UNKNOWN);
        }
        for (int wrong : new int[] {-1, 1, LEAST, GREATEST}) {
            due("letter(0, " + wrong + ", 0)", x.letter(0, wrong, 0), UNKNOWN);
            due("letter(0, " + wrong + ", 9)", x.letter(0, wrong, 9), UNKNOWN);
        }
        for (int wrong : new int[] {-1, 5, LEAST, GREATEST}) {
            due("letter(0, 0, " + wrong + ")", x.letter(0, 0, wrong), OUTSIDE);
            due("letter(1, 0, " + wrong + ")", x.letter(1, 0, wrong), UNKNOWN);
        }
        letterIs("a name letter", 0, 0, 1, 5, NONE, NONE, NONE);
    }

    private void sent() {
        x = new HeadsOfRings();
        for (int kind = 0; kind <= 7; kind++) {
            due("no algorithm: sent(" + kind + ")", x.sent(kind), 0);
        }
        for (int wrong : new int[] {-1, 8, LEAST, GREATEST}) {
            due("sent(" + wrong + ")", x.sent(wrong), OUTSIDE);
        }
        make("5r;9r;7r;", 1);
        x.wake(0);
        x.run(0, 1, 200);
        int[] want = {6, 3, 0, 0, 0, 0, 0, 3};
        for (int kind = 0; kind <= 7; kind++) {
            due("sent(" + kind + ")", x.sent(kind), want[kind]);
        }
        x.begin(1, 1, 1);
        due("begun again: sent(1)", x.sent(1), 0);
    }

    private void would() {
        make("5r;9r;7r;", 0);
        due("no algorithm: would(0, 1, 0)", x.would(0, 1, 0), NOT);
        due("no algorithm: would(4, 1, 0)", x.would(4, 1, 0), OUTSIDE);
        x.begin(1, 1, 1);
        int[][] wrong = {{-1, 1, 0}, {4, 1, 0}, {0, 0, 0}, {0, 1000000, 0}, {0, 1, -1}, {0, 1, 5}, {LEAST, 1, 0},
            {0, GREATEST, 0}, {0, 1, LEAST}};
        for (int[] w : wrong) {
            due("would(" + w[0] + ", " + w[1] + ", " + w[2] + ")", x.would(w[0], w[1], w[2]), OUTSIDE);
        }
        int[] nothing = {0, 0, NONE, 0, 1};
        int[] whole = {6, 5, 0, 3, 1};
        for (int what = 0; what <= 4; what++) {
            due("no letters: would(1, 999999, " + what + ")", x.would(1, 999999, what), nothing[what]);
        }
        x.wake(0);
        for (int what = 0; what <= 4; what++) {
            due("would(3, 1, " + what + ")", x.would(3, 1, what), whole[what]);
        }
        due("nothing is changed: count(2)", x.count(2), 1);
        due("nothing is changed: count(9)", x.count(9), 1);
        due("nothing is changed: count(4)", x.count(4), 1);
        due("nothing is changed: sent(0)", x.sent(0), 1);
        due("nothing is changed: undo()", x.undo(), 0);
    }

    private void wouldLong() {
        make("5r;9r;7r;", 4);
        wakeAll();
        int[] endless = {300, 300, NONE, 0, 0};
        for (int what = 0; what <= 4; what++) {
            due("without end: would(2, 3, " + what + ")", x.would(2, 3, what), endless[what]);
        }
    }

    private void foresee() {
        make("5r;9r;7r;", 0);
        due("no algorithm: foresee(1, 0)", x.foresee(1, 0), NOT);
        due("no algorithm: foresee(4, 0)", x.foresee(4, 0), OUTSIDE);
        x.begin(1, 1, 1);
        for (int wrong : new int[] {-1, 0, 4, LEAST, GREATEST}) {
            due("foresee(" + wrong + ", 0)", x.foresee(wrong, 0), OUTSIDE);
        }
        for (int wrong : new int[] {-1, 4, LEAST, GREATEST}) {
            due("foresee(1, " + wrong + ")", x.foresee(1, wrong), OUTSIDE);
        }
        int[] nothing = {0, 0, 0, 1};
        for (int what = 0; what <= 3; what++) {
            due("no letters: foresee(3, " + what + ")", x.foresee(3, what), nothing[what]);
        }
        wakeAll();
        // 5 disappears at 9, the others go on; after any delivery two links have letters.
        int[] two = {1, 2, 0, 6};
        for (int what = 0; what <= 3; what++) {
            due("foresee(2, " + what + ")", x.foresee(2, what), two[what]);
        }
        // Least: 5 disappears, 7 goes on and disappears; greatest: 7 and twice 9 go on.
        int[] three = {1, 3, 0, 10};
        for (int what = 0; what <= 3; what++) {
            due("foresee(3, " + what + ")", x.foresee(3, what), three[what]);
        }
        due("nothing is changed: count(2)", x.count(2), 3);
        due("nothing is changed: count(9)", x.count(9), 3);
        x.begin(1, 1, 1);
        x.wake(1);
        x.deliver(2);
        int[] one = {1, 1, 0, 1};
        int[] headNow = {2, 2, 1, 1};
        for (int what = 0; what <= 3; what++) {
            due("not yet: foresee(1, " + what + ")", x.foresee(1, what), one[what]);
            due("a head after two: foresee(2, " + what + ")", x.foresee(2, what), headNow[what]);
        }
        x.run(0, 1, 200);
        int[] over = {0, 0, 1, 1};
        for (int what = 0; what <= 3; what++) {
            due("all is over: foresee(3, " + what + ")", x.foresee(3, what), over[what]);
        }
    }

    private void foreseeFull() {
        make("1r;2r;3r;4r;5r;", 2);
        x.wake(0);
        x.wake(1);
        x.wake(2);
        due("six links: foresee(1, 3)", x.foresee(1, 3), 6);
        x.wake(3);
        due("eight links: foresee(1, 3)", x.foresee(1, 3), FULL);
        due("eight links: foresee(1, 4)", x.foresee(1, 4), OUTSIDE);
        x.deliver(0);
        due("seven or eight links: foresee(1, 3)", x.foresee(1, 3), FULL);
    }

    private void sit() {
        x = new HeadsOfRings();
        due("no ring: sit(3)", x.sit(3), NOT);
        due("no ring: sit(4)", x.sit(4), OUTSIDE);
        String[] texts = {"5r;9b;", "9r;5b;7b;", "1r;2r;3r;99b;", "5r;4r;3r;2r;1r;", "11b;22b;33b;44b;55b;66b;"};
        int[][] want = {{3, 3, 3, 1}, {5, 6, 11, 2}, {7, 10, 25, 3}, {9, 15, 137, 12}, {11, 21, 147, 10}};
        for (int i = 0; i < texts.length; i++) {
            make(texts[i], i % 2 == 0 ? 0 : 1);
            for (int what = 0; what <= 3; what++) {
                due(texts[i] + " sit(" + what + ")", x.sit(what), want[i][what]);
            }
            for (int wrong : new int[] {-1, 4, LEAST, GREATEST}) {
                due("sit(" + wrong + ")", x.sit(wrong), OUTSIDE);
            }
        }
    }

    private void chance() {
        x = new HeadsOfRings();
        int[][] wrong = {{0, 1, 0, 0}, {6, 1, 0, 0}, {1, 0, 0, 0}, {1, 4, 0, 0}, {1, 1, -1, 0}, {1, 1, 5, 0},
            {1, 1, 0, -1}, {1, 1, 0, 2}, {LEAST, 1, 0, 0}, {1, GREATEST, 0, 0}, {1, 1, LEAST, 0}, {1, 1, 0, GREATEST}};
        for (int[] w : wrong) {
            due("chance(" + w[0] + ", " + w[1] + ", " + w[2] + ", " + w[3] + ")", x.chance(w[0], w[1], w[2], w[3]), OUTSIDE);
        }
        long[][] want = {{1, 1, 0, 1, 1}, {1, 3, 4, 1, 1}, {2, 3, 0, 0, 1}, {2, 1, 4, 0, 1}, {5, 1, 1, 0, 1},
            {2, 2, 1, 1, 2}, {2, 2, 2, 3, 4}, {2, 3, 1, 2, 3}, {2, 3, 4, 80, 81}, {3, 2, 1, 3, 8}, {3, 3, 1, 5, 9},
            {4, 3, 1, 4, 9}, {5, 3, 4, 125187160, 129140163}};
        for (long[] w : want) {
            String call = "chance(" + w[0] + ", " + w[1] + ", " + w[2];
            due(call + ", 0)", x.chance((int) w[0], (int) w[1], (int) w[2], 0), w[3]);
            due(call + ", 1)", x.chance((int) w[0], (int) w[1], (int) w[2], 1), w[4]);
        }
    }

    private void count() {
        x = new HeadsOfRings();
        for (int wrong : new int[] {-1, 11, LEAST, GREATEST}) {
            due("count(" + wrong + ")", x.count(wrong), OUTSIDE);
        }
        make("5r;9r;7r;", 0);
        type("x");
        countsAre("no algorithm", 3, 0, 0, 0, 0, 0, 0, 0, NONE, 0, 1);
        x.begin(1, 1, 1);
        countsAre("begun", 3, 1, 0, 3, 0, 0, 0, 0, NONE, 0, 1);
        x.wake(1);
        countsAre("one is woken", 3, 1, 1, 2, 1, 0, 0, 0, NONE, 1, 1);
        x.deliver(2);
        countsAre("one is out", 3, 1, 1, 1, 1, 1, 0, 0, NONE, 2, 1);
        x.run(0, 1, 3);
        countsAre("one is head, one informed", 3, 1, 1, 0, 0, 1, 1, 1, 1, 3, 1);
    }
}
