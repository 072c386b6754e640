import java.util.List;

/** The boundary cases of the text: the buffer, its tokens and faults (Description, promises 1 to 4). */
public final class TextBoundsTest extends Bench {
    private static final String SIX = "1r;2b;3r;4b;5r;6b;";

    public static void main(String[] args) {
        new TextBoundsTest().all();
    }

    private void all() {
        newObject();
        bytes();
        fortyBytes();
        lastOfFortyBytes();
        emptyText();
        emptyInAnyCase();
        inPlaceOfThePresentOne();
        noAlgorithmThen();
        faultLeavesTheRing();
        faultOfTheTextReadLast();
        figuresAsLongAsPossible();
        singleBytes();
        blanks();
        otherBytesThanBlanks();
        bytesBesideTheDigits();
        bytesBesideTheSigns();
        twoToSix();
        endBeforeComplete();
        endBeforeTwo();
        moreThanTwoDigits();
        valueZero();
        nameThatHasOccurred();
        seventh();
        firstToken();
        firstNumber();
        check.end();
    }

    private static String blanks(int many) {
        return " ".repeat(many);
    }

    private void text(String text, int answer, int fault) {
        fresh();
        type(text);
        due("ring() of '" + text + "'", x.ring(), answer);
        due("fault() of '" + text + "'", x.fault(), fault);
        due("count(0) of '" + text + "'", x.count(0), Math.max(answer, 0));
    }

    private void newObject() {
        says("Creates an object without a ring, with an empty text.");
        fresh();
        due("count(0) = 0; count(10) = 0; contender(0, 0) = UNKNOWN; link(0) = UNKNOWN; letter(0, 0, 0) = UNKNOWN");
        due("wake(0) = UNKNOWN; deliver(0) = UNKNOWN; begin(1, 1, 1) = NOT; sit(0) = NOT; write(49) = 1");
    }

    private void bytes() {
        says("letter: 0 to 255");
        fresh();
        due("write(-1) = OUTSIDE; count(10) = 0; write(256) = OUTSIDE; count(10) = 0");
        due("write(0) = 1; write(255) = 2; write(-1) = OUTSIDE; write(256) = OUTSIDE; count(10) = 2");
        due("write(-2147483648) = OUTSIDE; write(2147483647) = OUTSIDE; write(1) = 3; write(254) = 4");
        // 304 and 314 would be '0' and ':' in one byte.
        due("write(304) = OUTSIDE; write(314) = OUTSIDE; write(-208) = OUTSIDE; count(10) = 4");
    }

    private void fortyBytes() {
        says("FULL if it already has 40 bytes");
        fresh();
        type(blanks(38));
        due("write(32) = 39; write(32) = 40; write(32) = FULL; count(10) = 40; write(0) = FULL; write(255) = FULL");
        due("count(10) = 40; ring() = -140; write(32) = 1");
        says("They are checked in this order.");
        fresh();
        type(blanks(40));
        due("write(-1) = OUTSIDE; write(256) = OUTSIDE; write(255) = FULL");
    }

    private void lastOfFortyBytes() {
        says("a buffer of at most 40 bytes");
        fresh();
        type("1r;" + blanks(34) + "2b");
        due("count(10) = 39; write(59) = 40; write(120) = FULL; ring() = 2; fault() = 0; contender(1, 1) = 1");
        text("1r;" + blanks(34) + "2b", -139, 1);
        text("1r;2b;" + blanks(33) + "x", -139, 1);
        text("1r;2b;" + blanks(33) + "0", -139, 2);
        text(SIX + blanks(21) + "7", -139, 3);
        text("1r;2b;" + blanks(33) + "3", -140, 1);
        text("1r;2b" + blanks(35), -140, 1);
        text("1r;2b;" + blanks(34), 2, 0);
        // The 41st byte is refused, so that it can neither complete nor spoil the text.
        text("1r;2b" + blanks(35) + ";", -140, 1);
        text("1r;2b;" + blanks(34) + "x", 2, 0);
        text("0".repeat(40), -100, 2);
        text("9".repeat(40), -100, 2);
        text("1r;" + "9".repeat(37), -103, 2);
        text(";".repeat(40), -100, 1);
    }

    private void emptyText() {
        says("the end of the text before a contender is complete, or before there are two of them; its index is the length of the text");
        fresh();
        due("ring() = -100; fault() = 1; count(0) = 0; ring() = -100; fault() = 1");
        make("1r;2b;", 1);
        due("ring() = -100; fault() = 1; count(0) = 2; count(1) = 1");
    }

    private void emptyInAnyCase() {
        says("The text is empty then in any case.");
        for (String text : List.of("1r;2b;", SIX, "1r;", "0r;", SIX + "7", SIX + blanks(22))) {
            fresh();
            type(text);
            x.ring();
            due("count(10) = 0; write(49) = 1; ring() = -101");
        }
        // A shorter text behind a longer one: nothing of the longer one is read again.
        fresh();
        type(SIX);
        x.ring();
        type("1r;");
        due("ring() = -103");
        type("8r;9");
        due("ring() = -104");
        type("8r;9b;");
        due("ring() = 2");
        for (char sign : "9 r;x".toCharArray()) {
            afterFortyOf(sign);
        }
    }

    /** The end of a text is its length, whatever an earlier text had there. */
    private void afterFortyOf(char sign) {
        String[] texts = {"", "8", "8r", "8r;", "8r;9", "8r;9b", "8r;9b;", "8r; ", "8r;9b; "};
        int[] answers = {-100, -101, -102, -103, -104, -105, 2, -104, 2};
        for (int i = 0; i < texts.length; i++) {
            fresh();
            type(String.valueOf(sign).repeat(40));
            x.ring();
            type(texts[i]);
            due("ring() of '" + texts[i] + "' after forty of '" + sign + "'", x.ring(), answers[i]);
            due("fault()", x.fault(), answers[i] == 2 ? 0 : 1);
        }
    }

    private void inPlaceOfThePresentOne() {
        says("Reads the text as a ring, in place of the present one.");
        make(SIX, 0);
        due("contender(5, 0) = 6; contender(5, 1) = 1; link(11) = 0");
        type("9b;8r;");
        due("ring() = 2; count(0) = 2; contender(0, 0) = 9; contender(0, 1) = 1; contender(1, 0) = 8; contender(1, 1) = 0");
        due("contender(2, 0) = UNKNOWN; link(3) = 0; link(4) = UNKNOWN; sit(1) = 3; begin(1, 1, 1) = 1; wake(2) = UNKNOWN");
        type("99r;98r;97r;96r;95r;94r;");
        due("ring() = 6; count(0) = 6; contender(5, 0) = 94; contender(0, 1) = 0; link(11) = 0; sit(1) = 21");
    }

    private void noAlgorithmThen() {
        says("No algorithm is begun then.");
        make("1r;2b;", 1);
        wakeAll();
        x.run(0, 1, 200);
        due("contender(0, 1) = 1; contender(0, 5) = 2");
        type("1r;2b;");
        due("ring() = 2; count(1) = 0; count(2) = 0; count(3) = 0; count(4) = 0; count(5) = 0; count(6) = 0; count(7) = 0");
        due("count(8) = NONE; count(9) = 0; undo() = NOT; sent(0) = 0; sent(1) = 0; sent(7) = 0; link(0) = 0; link(3) = 0");
        due("wake(0) = NOT; deliver(0) = NOT; run(0, 1, 1) = NOT; would(0, 1, 0) = NOT; foresee(1, 0) = NOT");
        contenderIs("no algorithm", 0, 1, 0, 0, NONE, NONE, NONE, 0);
        contenderIs("no algorithm", 1, 2, 1, 0, NONE, NONE, NONE, 0);
        // With letters under way too.
        make("1r;2b;", 2);
        wakeAll();
        type("1r;2b;");
        due("ring() = 2; count(2) = 0; link(0) = 0; letter(0, 0, 0) = UNKNOWN; deliver(0) = NOT; begin(2, 1, 1) = 1; count(2) = 0");
    }

    private void faultLeavesTheRing() {
        says("(then the ring and everything on it stay)");
        List<String> texts = List.of("", "7r;", "7r;8", "7r;8b", "7r;0", "7r;8b;7", "7r;8b;x", SIX + "7", SIX + "6");
        for (String text : texts) {
            make("5r;9b;7r;", 1);
            wakeAll();
            deliver(3);
            List<Long> before = algorithmOf(x);
            type(text);
            due("ring() of '" + text + "' is faulty", x.ring() <= -100 ? 1 : 0, 1);
            check.due("the same after '" + text + "'", algorithmOf(x).equals(before));
            due("count(9) = 4; undo() = 3; undo() = 2; link(4) = 0; undo() = 1; undo() = 0; undo() = NOT; count(0) = 3");
        }
        // Without an algorithm the ring stays as well.
        make("5r;9b;7r;", 0);
        type("1r;2r;0");
        due("ring() = -106; contender(0, 0) = 5; contender(1, 0) = 9; contender(1, 1) = 1; contender(2, 0) = 7; count(0) = 3");
    }

    private void faultOfTheTextReadLast() {
        says("0 if it had no fault, or none was read");
        fresh();
        due("fault() = 0; write(120) = 1; fault() = 0; begin(1, 1, 1) = NOT; fault() = 0");
        says("Returns the number of the fault of the text that was read last.");
        due("ring() = -100; fault() = 1; fault() = 1; write(48) = 1; fault() = 1; ring() = -100; fault() = 2");
        type(SIX + "7");
        due("fault() = 2; ring() = -118; fault() = 3");
        type("1r;2b;");
        due("fault() = 3; ring() = 2; fault() = 0; begin(1, 1, 1) = 1; wake(0) = 1; undo() = 0; fault() = 0");
        due("write(256) = OUTSIDE; fault() = 0; ring() = -100; fault() = 1; begin(1, 1, 1) = 1; fault() = 1");
    }

    private void figuresAsLongAsPossible() {
        says("figures (sequences of digits, as long as possible)");
        make("12r;3r;", 0);
        due("contender(0, 0) = 12; contender(1, 0) = 3");
        text("123r;4r;", -100, 2);
        text("1r;234r;", -103, 2);
        text("1r2r;", -102, 1);
        text("1r;23", -105, 1);
    }

    private void singleBytes() {
        says("and all other single bytes");
        text("1rr;2r;", -102, 1);
        text("1rb;2r;", -102, 1);
        text("1r;;2r;", -103, 1);
        text("1r;2r;;;", -106, 1);
        text("1bb", -102, 1);
    }

    private void blanks() {
        says("blanks (byte 32) before, between and behind tokens are ignored");
        text(" 1r;2r;", 2, 0);
        text("1 r;2r;", 2, 0);
        text("1r ;2r;", 2, 0);
        text("1r; 2r;", 2, 0);
        text("1r;2r; ", 2, 0);
        text("   1   r   ;   2   b   ;   ", 2, 0);
        // They part figures.
        text("1 2r;3r;", -102, 1);
        text("1r;2 3r;", -105, 1);
        // The index is that of the token, not that of the blanks before it.
        text("  x", -102, 1);
        text("  0", -102, 2);
        text("1  x", -103, 1);
        text("1r  x", -104, 1);
        text("1r;   1", -106, 2);
        text(SIX + "   7", -121, 3);
    }

    private void otherBytesThanBlanks() {
        says("blanks (byte 32)");
        for (int other : new int[] {0, 9, 10, 13, 31, 33, 127, 128, 160, 255}) {
            char sign = (char) other;
            text(sign + "1r;2r;", -100, 1);
            text("1" + sign + "r;2r;", -101, 1);
            text("1r" + sign + ";2r;", -102, 1);
            text("1r;" + sign + "2r;", -103, 1);
            text("1r;2r;" + sign, -106, 1);
        }
    }

    private void bytesBesideTheDigits() {
        says("figures (sequences of digits");
        for (int other : new int[] {47, 58, 48 + 128, 57 + 128, 178, 179, 185}) {
            text((char) other + "r;2r;", -100, 1);
            text("1" + (char) other + "r;2r;", -101, 1);
        }
        for (char digit = '0'; digit <= '9'; digit++) {
            make("1" + digit + "r;99r;", 0);
            due("the name of 1" + digit, x.contender(0, 0), 10 + digit - '0');
        }
        for (char digit = '1'; digit <= '9'; digit++) {
            make("99r;" + digit + "r;", 0);
            due("the name of " + digit, x.contender(1, 0), digit - '0');
        }
    }

    private void bytesBesideTheSigns() {
        says("\"r\" (sense 0) or \"b\" (sense 1), and \";\"");
        for (char other : "qsacRB;1".toCharArray()) {
            text("1" + (other == '1' ? " 1" : "" + other) + ";2r;", other == '1' ? -102 : -101, 1);
        }
        for (char other : ":<,rb1".toCharArray()) {
            text("1r" + other + "2r;", -102, 1);
            text("1b" + other + "2r;", -102, 1);
        }
        make("1r;2b;3b;4r;", 0);
        due("contender(0, 1) = 0; contender(1, 1) = 1; contender(2, 1) = 1; contender(3, 1) = 0");
    }

    private void twoToSix() {
        says("A text consists of two to six contenders");
        int[] answers = {-100, -103, 2, 3, 4, 5, 6, -118};
        int[] faults = {1, 1, 0, 0, 0, 0, 0, 3};
        for (int n = 0; n < answers.length; n++) {
            text(textOf(n, 'r'), answers[n], faults[n]);
            text(textOf(n, 'b'), answers[n], faults[n]);
        }
        make("11r;22b;33r;44b;55r;66b;", 0);
        for (int i = 0; i < 6; i++) {
            contenderIs("one of six", i, 11 * (i + 1), i % 2);
        }
        due("contender(6, 0) = UNKNOWN");
    }

    private void endBeforeComplete() {
        says("also the end of the text before a contender is complete");
        for (int n = 0; n < 6; n++) {
            String whole = textOf(n, 'r');
            text(whole + "9", -101 - 3 * n, 1);
            text(whole + "9r", -102 - 3 * n, 1);
            text(whole + "9b", -102 - 3 * n, 1);
            text(whole + "9  ", -103 - 3 * n, 1);
            text(whole + "9r  ", -104 - 3 * n, 1);
        }
    }

    private void endBeforeTwo() {
        says("or before there are two of them; its index is the length of the text");
        text("", -100, 1);
        text(" ", -101, 1);
        text("1r;", -103, 1);
        text("10b;", -104, 1);
        text("1r; ", -104, 1);
        text(" 1 r ; ", -107, 1);
    }

    private void moreThanTwoDigits() {
        says("2 figures of more than two digits");
        text("9r;99r;", 2, 0);
        text("10r;1r;", 2, 0);
        text("100r;1r;", -100, 2);
        text("001r;2r;", -100, 2);
        text("010r;2r;", -100, 2);
        text("000r;2r;", -100, 2);
        text("1r;2r;100r;", -106, 2);
        // So many digits that their value would come round to 1 or 2 in an int or a long.
        text("4294967297r;3r;", -100, 2);
        text("3r;18446744073709551617r;", -103, 2);
    }

    private void valueZero() {
        says("or with the value 0");
        text("0r;2r;", -100, 2);
        text("00r;2r;", -100, 2);
        text("2r;0r;", -103, 2);
        text("2r;00b;", -103, 2);
        text("01r;02r;", 2, 0);
        make("01r;09b;", 0);
        due("contender(0, 0) = 1; contender(1, 0) = 9");
    }

    private void nameThatHasOccurred() {
        says("or a name that has occurred");
        text("1r;1b;", -103, 2);
        text("1r;01b;", -103, 2);
        text("01r;1b;", -104, 2);
        text("1r;2r;1b;", -106, 2);
        text("1r;2r;2b;", -106, 2);
        text("1r;10r;11r;", 3, 0);
        for (int name = 1; name <= 5; name++) {
            text(textOf(5, 'r') + name + "r;", -115, 2);
        }
        // What an earlier text named has not occurred in this one.
        make("1r;2r;3r;", 0);
        type("3r;2b;");
        due("ring() = 2; fault() = 0");
        type("8r;9r;0");
        due("ring() = -106; fault() = 2");
        type("8r;9r;");
        due("ring() = 2; fault() = 0");
    }

    private void seventh() {
        says("3 figures where there are already six contenders");
        text(SIX, 6, 0);
        text(SIX + "7", -118, 3);
        text(SIX + "7r;", -118, 3);
        text(SIX + "99x", -118, 3);
        text(SIX + "07", -118, 3);
        text(textOf(5, 'r') + "7r;", 6, 0);
    }

    private void firstToken() {
        says("Its fault belongs to the first token for which one of the following applies");
        text("0x", -100, 2);
        text("1x0", -101, 1);
        text("1r;1r;0r;x", -103, 2);
        text("1r;2x;1r;", -104, 1);
        text(SIX + "7 7", -118, 3);
        text("1r;0", -103, 2);
    }

    private void firstNumber() {
        says("and has the number of the first one that applies to it");
        // 1 and 2: figures in the place of another sort, that are too long, 0 or a name once more.
        text("1 000r;", -102, 1);
        text("1 0r;", -102, 1);
        text("1 1r;", -102, 1);
        text("1r100", -102, 1);
        text("1r1", -102, 1);
        // 2 and 3: the seventh figures are too long, 0 or a name once more.
        text(SIX + "100", -118, 2);
        text(SIX + "0", -118, 2);
        text(SIX + "00", -118, 2);
        for (int name = 1; name <= 6; name++) {
            text(SIX + name, -118, 2);
            text(SIX + "0" + name, -118, 2);
        }
        // 1 and not 3: no figures where a seventh would begin.
        text(SIX + "r", -118, 1);
        text(SIX + ";", -118, 1);
    }
}
