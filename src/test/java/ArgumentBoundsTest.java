/**
 * Each argument of each method at its least and greatest value and one beyond each (promises 2 and 5
 * to 18); the least and greatest int stand for what lies further out.
 */
public final class ArgumentBoundsTest extends Bench {
    public static void main(String[] args) {
        new ArgumentBoundsTest().all();
    }

    private void all() {
        writeLetter();
        beginWay();
        beginD();
        beginSeed();
        beginArgumentsOfOtherWays();
        wakeContender();
        deliverLink();
        runOrder();
        runSeed();
        runMost();
        contenderContender();
        contenderWhat();
        linkLink();
        letterLink();
        letterLetter();
        letterWhat();
        sentKind();
        wouldOrder();
        wouldSeed();
        wouldWhat();
        foreseeK();
        foreseeWhat();
        sitWhat();
        chanceM();
        chanceD();
        chanceK();
        chanceWhat();
        countWhat();
        check.end();
    }

    /** Puts each number in the place of the sign # and asks for the answer. */
    private void each(String call, int answer, int... numbers) {
        for (int number : numbers) {
            String made = call.replace("#", Integer.toString(number));
            due(made, Calls.make(x, made), answer);
        }
    }

    /** What lies just outside of least to greatest, and the ends of int. */
    private void beyond(String call, int answer, int least, int greatest) {
        each(call, answer, least - 1, greatest + 1, LEAST, GREATEST);
    }

    private void writeLetter() {
        says("letter: 0 to 255");
        fresh();
        beyond("write(#)", OUTSIDE, 0, 255);
        due("write(0) = 1; write(255) = 2");
        beyond("write(#)", OUTSIDE, 0, 255);
        due("count(10) = 2");
    }

    private void beginWay() {
        says("way: the algorithm, 1 to 4");
        make("5r;9r;", 0);
        beyond("begin(#, 1, 1)", OUTSIDE, 1, 4);
        due("count(1) = 0; begin(1, 1, 1) = 1; count(1) = 1; begin(4, 1, 1) = 1; count(1) = 4; begin(2, 1, 1) = 1; count(1) = 2");
        due("begin(3, 1, 1) = 1; count(1) = 3");
        beyond("begin(#, 1, 1)", OUTSIDE, 1, 4);
        due("count(1) = 3");
    }

    private void beginD() {
        says("d: the number d of algorithm 4, 1 to 9 (for the others any of these)");
        for (int way = 1; way <= 4; way++) {
            make("5r;9r;", 0);
            beyond("begin(" + way + ", #, 1)", OUTSIDE, 1, 9);
            due("count(1) = 0");
            each("begin(" + way + ", #, 1)", 1, 1, 2, 3, 4, 5, 6, 7, 8, 9);
            due("count(1) = " + way);
        }
    }

    private void beginSeed() {
        says("seed: the seed of algorithm 4, 1 to 999999 (for the others any of these)");
        for (int way = 1; way <= 4; way++) {
            make("5r;9r;", 0);
            beyond("begin(" + way + ", 1, #)", OUTSIDE, 1, 999999);
            due("count(1) = 0");
            each("begin(" + way + ", 1, #)", 1, 1, 2, 500000, 999998, 999999);
            due("count(1) = " + way);
        }
    }

    private void beginArgumentsOfOtherWays() {
        says("(for the others any of these)");
        for (int way = 1; way <= 3; way++) {
            make("5r;9r;7r;", way, 1, 1);
            wakeAll();
            x.run(3, 5, 4);
            String plain = algorithmOf(x).toString();
            make("5r;9r;7r;", way, 9, 999999);
            wakeAll();
            x.run(3, 5, 4);
            check.due("algorithm " + way + " is the same by any d and seed", algorithmOf(x).toString().equals(plain));
        }
    }

    private void wakeContender() {
        says("contender: a contender");
        make("5r;9r;", 1);
        beyond("wake(#)", UNKNOWN, 0, 1);
        due("count(3) = 2; wake(0) = 1; wake(1) = 1");
        beyond("wake(#)", UNKNOWN, 0, 1);
        make(textOf(6, 'r'), 2);
        beyond("wake(#)", UNKNOWN, 0, 5);
        due("count(3) = 6; wake(0) = 2; wake(5) = 2; count(3) = 4; count(9) = 2");
    }

    private void deliverLink() {
        says("link: a link, 0 to 2 * n - 1");
        make("5r;9r;", 2);
        wakeAll();
        beyond("deliver(#)", UNKNOWN, 0, 3);
        due("count(2) = 4; deliver(0) = 2; deliver(3) = 2");
        beyond("deliver(#)", UNKNOWN, 0, 3);
        make(textOf(6, 'r'), 2);
        wakeAll();
        beyond("deliver(#)", UNKNOWN, 0, 11);
        due("count(2) = 12; deliver(0) = 2; deliver(11) = 2; count(9) = 8");
    }

    private void runOrder() {
        says("order: 0 to 3");
        make("5r;9r;", 2);
        wakeAll();
        beyond("run(#, 1, 1)", OUTSIDE, 0, 3);
        due("count(2) = 4; count(9) = 2");
        each("run(#, 1, 1)", 1, 0, 1, 2, 3);
        due("count(9) = 6");
    }

    private void runSeed() {
        says("seed: the seed of order 3, 1 to 999999 (for the others any of these)");
        for (int order = 0; order <= 3; order++) {
            make("5r;9r;", 4);
            wakeAll();
            beyond("run(" + order + ", #, 1)", OUTSIDE, 1, 999999);
            due("count(9) = 2; sent(0) = 2");
            each("run(" + order + ", #, 1)", 1, 1, 2, 999998, 999999);
            due("count(9) = 6; sent(0) = 6");
        }
        for (int order = 0; order <= 2; order++) {
            make("5r;9r;7r;", 2);
            wakeAll();
            due("run(" + order + ", 1, 7) = 7");
            String plain = algorithmOf(x).toString();
            due("undo() = 3; run(" + order + ", 999999, 7) = 7");
            check.due("order " + order + " is the same by any seed", algorithmOf(x).toString().equals(plain));
        }
    }

    private void runMost() {
        says("most: how many letters are delivered at most, 0 to 200");
        make("5r;9r;", 4);
        wakeAll();
        beyond("run(0, 1, #)", OUTSIDE, 0, 200);
        due("sent(0) = 2; count(9) = 2; run(0, 1, 0) = 0; sent(0) = 2; count(9) = 2");
        due("run(0, 1, 200) = 200; sent(0) = 202; run(0, 1, 199) = 199; run(0, 1, 1) = 1; sent(0) = 402; count(9) = 5");
    }

    private void contenderContender() {
        says("contender: a contender");
        make("5r;9r;", 0);
        for (int what = -1; what <= 7; what++) {
            beyond("contender(#, " + what + ")", UNKNOWN, 0, 1);
        }
        due("contender(0, 0) = 5; contender(1, 0) = 9");
        make(textOf(6, 'b'), 1);
        beyond("contender(#, 0)", UNKNOWN, 0, 5);
        due("contender(0, 0) = 1; contender(5, 0) = 6");
    }

    private void contenderWhat() {
        says("what: 0 its name; 1 its sense .. 6 its count of replies");
        make("5r;9b;", 0);
        beyond("contender(0, #)", OUTSIDE, 0, 6);
        beyond("contender(1, #)", OUTSIDE, 0, 6);
        due("contender(1, 0) = 9; contender(1, 1) = 1; contender(1, 2) = 0; contender(1, 6) = 0");
        make("5r;9r;", 3);
        wakeAll();
        deliver(0);
        beyond("contender(1, #)", OUTSIDE, 0, 6);
        due("contender(1, 0) = 9; contender(1, 6) = 1");
    }

    private void linkLink() {
        says("link: a link, 0 to 2 * n - 1");
        make("5r;9b;", 2);
        beyond("link(#)", UNKNOWN, 0, 3);
        due("link(0) = 0; link(3) = 0");
        wakeAll();
        beyond("link(#)", UNKNOWN, 0, 3);
        due("link(0) = 1; link(3) = 1");
        make(textOf(6, 'r'), 2);
        wakeAll();
        beyond("link(#)", UNKNOWN, 0, 11);
        due("link(0) = 1; link(11) = 1");
    }

    private void letterLink() {
        says("link: a link");
        make("5r;9b;", 2);
        wakeAll();
        beyond("letter(#, 0, 0)", UNKNOWN, 0, 3);
        due("letter(0, 0, 0) = 2; letter(3, 0, 0) = 2");
        make(textOf(6, 'r'), 2);
        wakeAll();
        beyond("letter(#, 0, 0)", UNKNOWN, 0, 11);
        due("letter(0, 0, 0) = 2; letter(11, 0, 0) = 2; letter(11, 0, 1) = 6");
    }

    private void letterLetter() {
        says("letter: its index in the queue, 0 for the first one");
        make("3r;2r;1r;", 1);
        wakeAll();
        deliver(0, 2, 2);
        beyond("letter(4, #, 1)", UNKNOWN, 0, 2);
        due("letter(4, 0, 1) = 1; letter(4, 1, 1) = 2; letter(4, 2, 1) = 3");
        each("letter(0, #, 1)", UNKNOWN, -1, 0, 1, LEAST, GREATEST);
    }

    private void letterWhat() {
        says("what: 0 its kind .. 4 alone of a token");
        make("5r;9r;", 4);
        wake(0);
        beyond("letter(0, 0, #)", OUTSIDE, 0, 4);
        due("letter(0, 0, 0) = 6; letter(0, 0, 4) = 1");
        beyond("letter(0, 1, #)", UNKNOWN, 0, 4);
        beyond("letter(1, 0, #)", UNKNOWN, 0, 4);
        beyond("letter(4, 0, #)", UNKNOWN, 0, 4);
    }

    private void sentKind() {
        says("kind: 1 to 7 for those of this kind, 0 for all");
        fresh();
        beyond("sent(#)", OUTSIDE, 0, 7);
        each("sent(#)", 0, 0, 1, 2, 3, 4, 5, 6, 7);
        make("5r;9r;", 1);
        wake(0);
        x.run(0, 1, 200);
        beyond("sent(#)", OUTSIDE, 0, 7);
        due("sent(0) = 4; sent(1) = 2; sent(7) = 2");
        each("sent(#)", 0, 2, 3, 4, 5, 6);
    }

    private void wouldOrder() {
        says("order: 0 to 3");
        make("5r;9r;", 1);
        wakeAll();
        for (int what = 0; what <= 4; what++) {
            beyond("would(#, 1, " + what + ")", OUTSIDE, 0, 3);
        }
        each("would(#, 1, 0)", 5, 0, 1, 2, 3);
    }

    private void wouldSeed() {
        says("seed: 1 to 999999");
        make("5r;9r;", 1);
        wakeAll();
        for (int order = 0; order <= 3; order++) {
            beyond("would(" + order + ", #, 0)", OUTSIDE, 1, 999999);
            each("would(" + order + ", #, 0)", 5, 1, 2, 999998, 999999);
        }
    }

    private void wouldWhat() {
        says("what: 0 how many letters are delivered .. 4 whether there are no letters at the end (1 or 0)");
        make("5r;9r;", 1);
        wakeAll();
        beyond("would(0, 1, #)", OUTSIDE, 0, 4);
        due("would(0, 1, 0) = 5; would(0, 1, 1) = 3; would(0, 1, 2) = 1; would(0, 1, 3) = 2; would(0, 1, 4) = 1");
    }

    private void foreseeK() {
        says("k: 1 to 3");
        make("5r;9r;7r;", 1);
        wakeAll();
        for (int what = 0; what <= 3; what++) {
            beyond("foresee(#, " + what + ")", OUTSIDE, 1, 3);
        }
        due("foresee(1, 3) = 3; foresee(2, 3) = 6; foresee(3, 3) = 10");
    }

    private void foreseeWhat() {
        says("what: 0 the least and 1 the greatest .. 3 the number of sequences");
        make("5r;9r;7r;", 1);
        wakeAll();
        for (int k = 1; k <= 3; k++) {
            beyond("foresee(" + k + ", #)", OUTSIDE, 0, 3);
        }
        due("foresee(1, 0) = 0; foresee(1, 1) = 1; foresee(1, 2) = 0; foresee(1, 3) = 3");
    }

    private void sitWhat() {
        says("what: 0 the least number, 1 the greatest number, 2 and 3 numerator and denominator of the mean");
        make("5r;9r;7r;", 0);
        beyond("sit(#)", OUTSIDE, 0, 3);
        due("sit(0) = 5; sit(1) = 6; sit(2) = 11; sit(3) = 2");
    }

    private void chanceM() {
        says("m: 1 to 5");
        fresh();
        beyond("chance(#, 2, 1, 0)", OUTSIDE, 1, 5);
        beyond("chance(#, 2, 1, 1)", OUTSIDE, 1, 5);
        due("chance(1, 2, 1, 0) = 1; chance(1, 2, 1, 1) = 1; chance(5, 2, 1, 0) = 5; chance(5, 2, 1, 1) = 32");
    }

    private void chanceD() {
        says("d: 1 to 3");
        fresh();
        beyond("chance(2, #, 1, 0)", OUTSIDE, 1, 3);
        beyond("chance(2, #, 1, 1)", OUTSIDE, 1, 3);
        beyond("chance(1, #, 0, 0)", OUTSIDE, 1, 3);
        due("chance(2, 1, 1, 0) = 0; chance(2, 1, 1, 1) = 1; chance(2, 3, 1, 0) = 2; chance(2, 3, 1, 1) = 3");
    }

    private void chanceK() {
        says("k: 0 to 4");
        fresh();
        beyond("chance(2, 2, #, 0)", OUTSIDE, 0, 4);
        beyond("chance(2, 2, #, 1)", OUTSIDE, 0, 4);
        beyond("chance(1, 2, #, 0)", OUTSIDE, 0, 4);
        due("chance(2, 2, 0, 0) = 0; chance(2, 2, 0, 1) = 1; chance(2, 2, 4, 0) = 15; chance(2, 2, 4, 1) = 16");
    }

    private void chanceWhat() {
        says("what: 0 numerator, 1 denominator");
        fresh();
        beyond("chance(2, 2, 1, #)", OUTSIDE, 0, 1);
        beyond("chance(1, 1, 0, #)", OUTSIDE, 0, 1);
        due("chance(3, 2, 1, 0) = 3; chance(3, 2, 1, 1) = 8");
    }

    private void countWhat() {
        says("what: 0 contenders .. 10 bytes of the text");
        fresh();
        type("5r;");
        beyond("count(#)", OUTSIDE, 0, 10);
        due("count(0) = 0; count(10) = 3");
        make("5r;9r;", 1);
        type("5r;9r");
        wakeAll();
        beyond("count(#)", OUTSIDE, 0, 10);
        due("count(0) = 2; count(10) = 5; count(9) = 2");
    }
}
