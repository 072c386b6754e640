/** The four examples of the document, call by call. */
public final class ExamplesTest {
    private static final Check check = new Check();
    private static HeadsOfRings x;

    public static void main(String[] args) {
        greatestOfTwo();
        twiceAndSenses();
        randomMarks();
        withoutRing();
        check.end();
    }

    private static void write(String text) {
        for (int i = 0; i < text.length(); i++) {
            check.due("write(" + (int) text.charAt(i) + ")", x.write(text.charAt(i)), i + 1);
        }
    }

    private static void greatestOfTwo() {
        x = new HeadsOfRings();
        write("5r;9r;");
        check.due("1: ring()", x.ring(), 2);
        check.due("1: begin(1, 1, 1)", x.begin(1, 1, 1), 1);
        check.due("1: wake(0)", x.wake(0), 1);
        check.due("1: wake(1)", x.wake(1), 1);
        check.due("1: run(0, 1, 200)", x.run(0, 1, 200), 5);
        check.due("1: count(8)", x.count(8), 1);
        check.due("1: sent(1)", x.sent(1), 3);
        check.due("1: contender(0, 5)", x.contender(0, 5), 9);
        check.due("1: undo()", x.undo(), 2);
        check.due("1: sit(2)", x.sit(2), 3);
    }

    private static void twiceAndSenses() {
        x = new HeadsOfRings();
        write("3r;3");
        check.due("2: ring()", x.ring(), -103);
        check.due("2: fault()", x.fault(), 2);
        check.due("2: begin(1, 1, 1)", x.begin(1, 1, 1), -1000003);
        write("4b;7r;");
        check.due("2: ring()", x.ring(), 2);
        check.due("2: begin(3, 1, 1)", x.begin(3, 1, 1), -1000003);
        check.due("2: begin(2, 1, 1)", x.begin(2, 1, 1), 1);
    }

    private static void randomMarks() {
        x = new HeadsOfRings();
        write("2b;1b;");
        check.due("3: ring()", x.ring(), 2);
        check.due("3: begin(4, 2, 7)", x.begin(4, 2, 7), 1);
        check.due("3: wake(1)", x.wake(1), 1);
        check.due("3: letter(3, 0, 1)", x.letter(3, 0, 1), 1);
        check.due("3: letter(3, 0, 3)", x.letter(3, 0, 3), 1);
        check.due("3: would(2, 5, 2)", x.would(2, 5, 2), 1);
        check.due("3: foresee(2, 3)", x.foresee(2, 3), 1);
        check.due("3: deliver(3)", x.deliver(3), 6);
        check.due("3: contender(0, 2)", x.contender(0, 2), 2);
    }

    private static void withoutRing() {
        x = new HeadsOfRings();
        check.due("4: ring()", x.ring(), -100);
        check.due("4: fault()", x.fault(), 1);
        check.due("4: count(8)", x.count(8), -1);
        check.due("4: begin(1, 1, 0)", x.begin(1, 1, 0), -1000002);
        check.due("4: begin(1, 1, 1)", x.begin(1, 1, 1), -1000003);
        check.due("4: run(4, 1, 1)", x.run(4, 1, 1), -1000002);
        check.due("4: run(0, 1, 1)", x.run(0, 1, 1), -1000003);
        check.due("4: undo()", x.undo(), -1000003);
        check.due("4: contender(0, 0)", x.contender(0, 0), -1000001);
        check.due("4: sit(0)", x.sit(0), -1000003);
        check.due("4: chance(3, 2, 1, 0)", x.chance(3, 2, 1, 0), 3);
        check.due("4: chance(3, 2, 1, 1)", x.chance(3, 2, 1, 1), 8);
        check.due("4: chance(1, 3, 0, 0)", x.chance(1, 3, 0, 0), 1);
        check.due("4: chance(2, 1, 4, 0)", x.chance(2, 1, 4, 0), 0);
        check.due("4: sent(8)", x.sent(8), -1000002);
        check.due("4: link(0)", x.link(0), -1000001);
    }
}
