import java.util.ArrayList;
import java.util.Arrays;
import java.util.List;
import java.util.regex.Matcher;
import java.util.regex.Pattern;

/** The sentences about the ring, its links, the text and its faults, and the states. */
public final class RingSentencesTest extends Bench {
    public static void main(String[] args) {
        new RingSentencesTest().all();
    }

    private void all() {
        numbers();
        namesAndSenses();
        queues();
        bytesOfTheText();
        tokens();
        contendersOfTheText();
        eachByteInEachPlace();
        eachPairOfFigures();
        eachTextOfThreeBytes();
        states();
        check.end();
    }

    private void numbers() {
        says("The contenders are numbered 0 to n - 1 (n is 2 to 6; at first there is no ring).");
        for (int who = -1; who <= 7; who++) {
            fresh();
            due("no ring: contender(" + who + ", 0)", x.contender(who, 0), UNKNOWN);
            due("no ring: wake(" + who + ")", x.wake(who), UNKNOWN);
        }
        for (int n = 2; n <= 6; n++) {
            make(textOf(n, 'b'), 1);
            for (int who = -1; who <= 7; who++) {
                boolean isOne = who >= 0 && who <= n - 1;
                due(n + " contenders: contender(" + who + ", 0)", x.contender(who, 0), isOne ? who + 1 : UNKNOWN);
                due(n + " contenders: wake(" + who + ")", x.wake(who), isOne ? 1 : UNKNOWN);
            }
        }
    }

    private void namesAndSenses() {
        says("Each has a name (1 to 99, all different) and a sense: 0 if its right is forward, 1 if its right is backward.");
        for (int name = 1; name <= 99; name++) {
            for (int sense = 0; sense <= 1; sense++) {
                int other = name == 99 ? 1 : name + 1;
                make(other + "r;" + name + (sense == 0 ? "r;" : "b;"), 1);
                contenderIs("one of two", 1, name, sense, 0);
                wake(1);
                // Its right: that is where its name goes.
                due("name " + name + ", sense " + sense + ": link(2)", x.link(2), 1 - sense);
                due("name " + name + ", sense " + sense + ": link(3)", x.link(3), sense);
                due("the name of the letter", x.letter(2 + sense, 0, 1), name);
            }
        }
    }

    /** The letters of a queue as texts, so that queues can be compared. */
    private static List<String> textsOf(List<int[]> queue) {
        List<String> texts = new ArrayList<>();
        queue.forEach(letter -> texts.add(Arrays.toString(letter)));
        return texts;
    }

    private void queues() {
        says("On each link there is a queue of letters: a letter that is sent over it is appended, and the "
            + "first one is delivered.");
        for (int way = 1; way <= 4; way++) {
            String text = way <= 2 ? "3r;1b;6b;2r;5r;4b;" : "3b;1b;6b;2b;5b;4b;";
            for (int done = 0; done < 24; done++) {
                for (int pick = 0; pick < 12; pick++) {
                    make(text, way, 2, 12);
                    wakeAll();
                    x.run(3, 5, done);
                    Sight before = Sight.of(x);
                    List<Integer> busy = before.busy();
                    if (pick < busy.size()) {
                        oneDelivery(before, busy.get(pick));
                    }
                }
            }
        }
    }

    /** Only the link of the delivery loses a letter, its first one; the others only get some behind theirs. */
    private void oneDelivery(Sight before, int link) {
        String first = textsOf(before.queue(link)).get(0);
        String kind = "[" + x.deliver(link) + ",";
        check.due("the first letter of link " + link + " is delivered: " + first, first.startsWith(kind));
        Sight after = Sight.of(x);
        int appended = 0;
        for (int l = 0; l < 2 * before.n; l++) {
            List<String> old = textsOf(before.queue(l));
            if (l == link) {
                old.remove(0);
            }
            List<String> now = textsOf(after.queue(l));
            check.due("link " + l + " goes from " + old + " to " + now,
                now.size() >= old.size() && now.subList(0, old.size()).equals(old));
            boolean ofReceiver = l / 2 == before.receiver(link);
            check.due("only the receiver sends", ofReceiver || now.size() == old.size());
            appended += now.size() - old.size();
        }
        due("letters that were appended", appended, after.sentOf(0) - before.sentOf(0));
    }

    private void bytesOfTheText() {
        says("The text is a buffer of at most 40 bytes (0 to 255).");
        for (int letter = -3; letter <= 258; letter++) {
            boolean isByte = letter >= 0 && letter <= 255;
            fresh();
            due("write(" + letter + ") first", x.write(letter), isByte ? 1 : OUTSIDE);
            type(" ".repeat(39 - x.count(10)));
            due("write(" + letter + ") behind 39 bytes", x.write(letter), isByte ? 40 : OUTSIDE);
            type(" ".repeat(40 - x.count(10)));
            due("write(" + letter + ") behind 40 bytes", x.write(letter), isByte ? FULL : OUTSIDE);
            due("count(10)", x.count(10), 40);
        }
    }

    private void read(String text, int answer, int fault) {
        fresh();
        type(text);
        due("ring() of '" + text + "'", x.ring(), answer);
        due("fault() of '" + text + "'", x.fault(), fault);
    }

    private void tokens() {
        says("Its tokens are figures (sequences of digits, as long as possible) and all other single bytes; "
            + "blanks (byte 32) before, between and behind tokens are ignored.");
        String[] tokens = {"7", "r", ";", "18", "b", ";", "9", "r", ";"};
        // Blanks in each of the ten gaps, by each way to have some or none.
        for (int gaps = 0; gaps < 1 << 10; gaps++) {
            StringBuilder text = new StringBuilder();
            for (int gap = 0; gap < 10; gap++) {
                text.append(" ".repeat((gaps >> gap & 1) * (1 + gap % 3)));
                text.append(gap < 9 ? tokens[gap] : "");
            }
            read(text.toString(), 3, 0);
            due("contender(0, 0) = 7; contender(1, 0) = 18; contender(2, 0) = 9");
            due("contender(0, 1) = 0; contender(1, 1) = 1; contender(2, 1) = 0");
        }
        read("1 8r;9r;", -102, 1);
        read("18 9r;", -103, 1);
        read("18r b;9r;", -104, 1);
    }

    private void contendersOfTheText() {
        says("A text consists of two to six contenders, each of which is figures (the name), \"r\" (sense 0) "
            + "or \"b\" (sense 1), and \";\".");
        for (int n = 0; n <= 8; n++) {
            for (int senses = 0; senses < 1 << n; senses++) {
                StringBuilder text = new StringBuilder();
                for (int who = 0; who < n; who++) {
                    text.append(9 - who).append((senses >> who & 1) == 0 ? "r;" : "b;");
                }
                read(text.toString(), n < 2 ? -100 - 3 * n : n <= 6 ? n : -118, n < 2 ? 1 : n <= 6 ? 0 : 3);
                for (int who = 0; who < n && n >= 2 && n <= 6; who++) {
                    contenderIs(n + " contenders", who, 9 - who, senses >> who & 1);
                }
            }
        }
    }

    private void eachByteInEachPlace() {
        says("Its fault belongs to the first token for which one of the following applies, and has the number "
            + "of the first one that applies to it: 1 a token of another sort must stand there: figures where "
            + "a contender begins, then \"r\" or \"b\", then \";\" (also the end of the text before a "
            + "contender is complete, or before there are two of them; its index is the length of the text)");
        for (int whole = 0; whole <= 6; whole++) {
            String before = textOf(whole, 'r');
            for (int letter = 0; letter <= 255; letter++) {
                String sign = String.valueOf((char) letter);
                if (letter != ' ') {
                    int fault = atTheBeginning(letter, whole);
                    read(before + " " + sign + "x", placeOf(before.length() + 1, fault), numberOf(fault));
                }
                if (whole < 6 && letter != ' ' && !isDigit(letter)) {
                    boolean sense = sign.equals("r") || sign.equals("b");
                    read(before + "9" + sign + "x", -101 - before.length() - (sense ? 1 : 0), 1);
                    boolean end = sign.equals(";");
                    read(before + "9r" + sign + "x", -102 - before.length() - (end ? 1 : 0), 1);
                }
            }
        }
    }

    private static boolean isDigit(int letter) {
        return letter >= '0' && letter <= '9';
    }

    /** The fault of a byte where a contender begins; 0 if it is a name, and then the x behind it is one. */
    private static int atTheBeginning(int letter, int whole) {
        if (!isDigit(letter)) {
            return 1;
        }
        int value = letter - '0';
        return value == 0 || value <= whole ? 2 : whole == 6 ? 3 : 0;
    }

    private static int numberOf(int fault) {
        return fault == 0 ? 1 : fault;
    }

    private static int placeOf(int index, int fault) {
        return -100 - index - (fault == 0 ? 1 : 0);
    }

    private void eachPairOfFigures() {
        says("2 figures of more than two digits, or with the value 0, or a name that has occurred; 3 figures "
            + "where there are already six contenders.");
        String five = "11r;22b;33r;44b;55r;";
        for (int value = 0; value <= 999; value++) {
            for (String figures : List.of(String.valueOf(value), "0" + value, "00" + value)) {
                boolean tooLong = figures.length() > 2;
                boolean occurred = value % 11 == 0 && value <= 55;
                int fault = tooLong || value == 0 || occurred ? 2 : 0;
                read(five + figures + "r;", fault == 2 ? -120 : 6, fault);
                int seventh = fault == 2 || value == 66 ? 2 : 3;
                read(five + "66b;" + figures, -124, seventh);
            }
        }
    }

    /** All short texts of the signs that matter; what is due is found by the words, token by token. */
    private void eachTextOfThreeBytes() {
        says("Its fault belongs to the first token for which one of the following applies");
        String signs = "019rb; x";
        for (int number = 0; number < 8 * 8 * 8; number++) {
            String end = "" + signs.charAt(number / 64) + signs.charAt(number / 8 % 8) + signs.charAt(number % 8);
            for (String before : List.of("", "1r;", "1r;2b;", "1r;2r;3r;4r;5r;6r;")) {
                int[] want = wanted(before + end);
                read(before + end, want[0], want[1]);
            }
        }
    }

    /** What ring() and fault() are to answer. */
    private static int[] wanted(String text) {
        List<Integer> names = new ArrayList<>();
        int place = 0;
        Matcher token = Pattern.compile("[0-9]+|[^ ]").matcher(text);
        while (token.find()) {
            int fault = 0;
            if (!token.group().matches(new String[] {"[0-9]+", "[rb]", ";"}[place])) {
                fault = 1;
            } else if (place == 0) {
                int value = Integer.parseInt(token.group());
                fault = token.group().length() > 2 || value == 0 || names.contains(value) ? 2 : names.size() == 6 ? 3 : 0;
                names.add(value);
            }
            if (fault > 0) {
                return new int[] {-100 - token.start(), fault};
            }
            place = (place + 1) % 3;
        }
        return place == 0 && names.size() >= 2 ? new int[] {names.size(), 0} : new int[] {-100 - text.length(), 1};
    }

    private void states() {
        says("The other states are running (1), out (2), head (3) and informed (4).");
        for (int way = 1; way <= 4; way++) {
            make("5r;9r;7r;", way);
            due("contender(1, 2) = 0; contender(2, 2) = 0; count(3) = 3; count(4) = 0");
            wake(1);
            due("contender(1, 2) = 1; contender(2, 2) = 0; count(3) = 2; count(4) = 1; count(5) = 0");
            deliver(2);
            due("contender(1, 2) = 1; contender(2, 2) = 2; count(3) = 1; count(5) = 1; count(6) = 0");
            while (x.count(6) == 0) {
                due("a letter more", x.run(0, 1, 1), 1);
            }
            due("contender(1, 2) = 3; contender(2, 2) = 2; contender(0, 2) = 2; count(4) = 0; count(5) = 2; count(6) = 1; count(7) = 0");
            x.run(0, 1, 200);
            due("contender(1, 2) = 3; contender(2, 2) = 4; contender(0, 2) = 4; count(5) = 0; count(6) = 1; count(7) = 2");
        }
    }
}
