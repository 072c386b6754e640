/** The boundary cases of the four algorithms: equal and neighbouring numbers, the last step, the second reply. */
public final class AlgorithmBoundsTest extends Bench {
    public static void main(String[] args) {
        new AlgorithmBoundsTest().all();
    }

    private void all() {
        namesThatDifferByOne();
        outLetsNamesGoOn();
        twoToThePhase();
        probesOfNamesThatDifferByOne();
        stepsOfAProbe();
        outWithStepsLeft();
        probeThatComesHome();
        firstAndSecondReply();
        replyToAnother();
        replyToOneThatIsOut();
        beginsByItsMark();
        firstLetterEqualToItsMark();
        secondLetterInEachOrder();
        secondLetterOfTwo();
        outLetsMarksGoOn();
        marksDrawn();
        leastAndGreatestMark();
        drawnAgain();
        marksThatDifferByOne();
        equalMarks();
        lastStepButOne();
        homeAlone();
        homeNotAlone();
        aloneStaysZero();
        noneWithoutWaking();
        valuesStay();
        propertiesOfEachKind();
        check.end();
    }

    private void namesThatDifferByOne() {
        says("if v > w, it becomes out, and the letter goes on; if v < w, the letter disappears; if v = w, it becomes head by w");
        make("50r;51r;", 1);
        wakeAll();
        due("deliver(0) = 1; contender(1, 2) = 1; count(2) = 1; sent(1) = 2");
        due("deliver(2) = 1; contender(0, 2) = 2; count(2) = 1; letter(0, 0, 1) = 51; sent(1) = 3");
        due("deliver(0) = 1; contender(1, 2) = 3; contender(1, 5) = 51; sent(1) = 3; sent(7) = 1; letter(2, 0, 0) = 7");
    }

    private void outLetsNamesGoOn() {
        says("If a name letter v is delivered to one that is out, it goes on.");
        // A lesser and a greater name at one that is out by a name that moved in the other direction.
        make("3r;2b;1r;", 1);
        wake(1, 2);
        due("deliver(3) = 1; contender(0, 2) = 2; deliver(4) = 1; letter(0, 0, 1) = 1; letter(1, 0, 1) = 2; contender(0, 2) = 2");
        make("3b;2r;1r;", 1);
        wake(0, 1);
        due("deliver(1) = 1; contender(2, 2) = 2; deliver(2) = 1; letter(4, 0, 1) = 2; letter(5, 0, 1) = 3; contender(2, 2) = 2");
        make("50r;49r;", 1);
        wake(1);
        due("deliver(2) = 1; contender(0, 2) = 2; letter(0, 0, 1) = 49; deliver(0) = 1; count(8) = 1");
    }

    private void twoToThePhase() {
        says("first forward and then backward a probe with its name, k, and 2^k steps; its count of replies is 0 then");
        make("9r;1r;2r;3r;4r;5r;", 2);
        wake(0);
        for (int phase = 0; phase <= 3; phase++) {
            contenderIs("phase " + phase, 0, 9, 0, 1, NONE, phase, NONE, 0);
            letterIs("phase " + phase + " forward", 0, 0, 2, 9, phase, 1 << phase, NONE);
            letterIs("phase " + phase + " backward", 1, 0, 2, 9, phase, 1 << phase, NONE);
            due("only these two", x.count(2), 2);
            if (phase < 3) {
                due("there and back in both directions", x.run(2, 1, 4 << phase), 4 << phase);
            }
        }
    }

    private void probesOfNamesThatDifferByOne() {
        says("if v < w, it disappears; if v = w, the contender becomes head by w; if v > w, it becomes out");
        make("50r;51r;", 2);
        wakeAll();
        due("deliver(0) = 2; contender(1, 2) = 1; count(2) = 3; sent(0) = 4; deliver(1) = 2; contender(1, 2) = 1; count(2) = 2");
        due("deliver(2) = 2; contender(0, 2) = 2; letter(1, 0, 0) = 3; letter(1, 0, 1) = 51; sent(3) = 1");
    }

    private void stepsOfAProbe() {
        says("if they are 1 or more then, it lets the probe go on with them; otherwise the probe disappears and it answers by a reply with v and k");
        make("9r;1r;2r;3r;4r;", 2);
        wake(0);
        due("letter(0, 0, 3) = 1; deliver(0) = 2; link(2) = 0; letter(3, 0, 0) = 3; letter(3, 0, 1) = 9; letter(3, 0, 2) = 0");
        due("letter(1, 0, 3) = 1; deliver(1) = 2; link(9) = 0; letter(8, 0, 0) = 3; letter(8, 0, 1) = 9; letter(8, 0, 2) = 0");
        due("deliver(3) = 3; deliver(8) = 3; letter(0, 0, 3) = 2; deliver(0) = 2; link(3) = 0");
        letterIs("one step is left", 2, 0, 2, 9, 1, 1, NONE);
        due("deliver(2) = 2; link(4) = 0");
        letterIs("no step is left", 5, 0, 3, 9, 1, NONE, NONE);
    }

    private void outWithStepsLeft() {
        says("it becomes out and handles the probe as one that is out");
        // 5 sleeps where only the third phase of 9 comes by, with two of its four steps left.
        make("9r;1r;2r;5r;3r;4r;", 2);
        wake(0, 3);
        deliver(0, 1, 3, 10);
        deliver(0, 2, 5, 3, 1, 11, 8, 10);
        deliver(0, 2);
        due("contender(3, 2) = 1; letter(4, 0, 3) = 2; sent(3) = 6; deliver(4) = 2; contender(3, 2) = 2; sent(3) = 6; link(7) = 1");
        letterIs("behind its own probe", 6, 1, 2, 9, 2, 1, NONE);
        // With one step left it answers.
        make("9r;5r;", 2);
        wake(0, 1);
        due("deliver(0) = 2; contender(1, 2) = 2; link(2) = 1; link(3) = 2; letter(3, 1, 0) = 3; letter(3, 1, 1) = 9");
    }

    private void probeThatComesHome() {
        says("if v = w, the contender becomes head by w");
        int[] lastPhase = {0, 0, 1, 2, 2, 3, 3};
        for (int n = 2; n <= 6; n++) {
            int phase = lastPhase[n];
            make("9r;" + textOf(n - 1, 'r'), 2);
            wake(0);
            due(n + " contenders: the phases before", x.run(0, 1, 4 * ((1 << phase) - 1)), 4 * ((1 << phase) - 1));
            for (int i = 0; i < n - 1; i++) {
                deliver(2 * i);
            }
            letterIs(n + " contenders: before it is home", 2 * (n - 1), 0, 2, 9, phase, (1 << phase) - (n - 1), NONE);
            contenderIs(n + " contenders: before it is home", 0, 9, 0, 1, NONE, phase, NONE, 0);
            deliver(2 * (n - 1));
            contenderIs(n + " contenders: home", 0, 9, 0, 3, NONE, phase, 9, 0);
        }
    }

    private void firstAndSecondReply() {
        says("its count of replies increases by 1; when it is 2, its phase increases by 1 and it sends probes");
        make("9r;1r;2r;", 2);
        wake(0);
        deliver(0, 1);
        due("contender(0, 6) = 0; deliver(3) = 3; contender(0, 6) = 1; contender(0, 4) = 0; count(2) = 1; sent(2) = 2");
        due("deliver(4) = 3; contender(0, 6) = 0; contender(0, 4) = 1; count(2) = 2; sent(2) = 4");
    }

    private void replyToAnother() {
        says("Any other contender lets the reply go on.");
        make("9r;10r;8r;7r;6r;", 2);
        wake(0);
        deliver(0, 1, 3, 8, 0, 2);
        due("deliver(5) = 3; contender(1, 2) = 2; link(5) = 0");
        letterIs("it has gone on", 3, 0, 3, 9, 1, NONE, NONE);
        due("deliver(3) = 3; contender(0, 6) = 1; link(1) = 1; count(2) = 1");
    }

    private void replyToOneThatIsOut() {
        says("it disappears, and if this contender is running, its count of replies increases by 1");
        make("9r;5r;7r;", 2);
        wake(1);
        deliver(2);
        wake(0);
        deliver(0);
        due("contender(1, 2) = 2; count(2) = 4; deliver(5) = 3; count(2) = 3; contender(1, 6) = 0; contender(1, 4) = 0; sent(0) = 6");
    }

    private void beginsByItsMark() {
        says("it awaits a first letter then");
        make("1b;99b;", 3);
        wakeAll();
        contenderIs("begun", 0, 1, 1, 1, 1, 0, NONE, 0);
        contenderIs("begun", 1, 99, 1, 1, 99, 0, NONE, 0);
        letterIs("begun", 1, 0, 4, 1, NONE, NONE, NONE);
        letterIs("begun", 3, 0, 4, 99, NONE, NONE, NONE);
    }

    private void firstLetterEqualToItsMark() {
        says("if v is its mark, the contender becomes head by v; otherwise it remembers v, sends a second letter with v to its right");
        for (int other = 49; other <= 51; other += 2) {
            make("50r;" + other + "r;", 3);
            wakeAll();
            deliver(2);
            contenderIs("one more or less", 0, 50, 0, 1, 50, 0, NONE, 1);
            letterIs("one more or less", 0, 1, 5, other, NONE, NONE, NONE);
        }
        make("50r;51r;", 3);
        wake(0);
        deliver(0, 2);
        contenderIs("equal", 0, 50, 0, 3, 50, 0, 50, 0);
        letterIs("equal", 0, 0, 7, 50, NONE, NONE, NONE);
    }

    private void secondLetterInEachOrder() {
        says("if the remembered v is greater than its mark and greater than u, v becomes its mark, its phase increases by 1");
        int[][] orders = {{50, 51, 52}, {50, 52, 51}, {51, 50, 52}, {51, 52, 50}, {52, 50, 51}, {52, 51, 50}};
        for (int[] names : orders) {
            int u = names[0];
            int v = names[1];
            int mark = names[2];
            make(u + "r;" + v + "r;" + mark + "r;", 3);
            wakeAll();
            deliver(2, 0);
            due("u, v and mark " + u + ", " + v + ", " + mark + ": deliver(2)", x.deliver(2), 5);
            if (v == 52) {
                contenderIs("greater than both", 2, mark, 0, 1, v, 1, NONE, 0);
                letterIs("greater than both", 4, 2, 4, v, NONE, NONE, NONE);
            } else {
                contenderIs("not greater than both", 2, mark, 0, 2, mark, 0, NONE, 1);
                due("not greater than both: link(4)", x.link(4), 2);
            }
        }
    }

    private void secondLetterOfTwo() {
        says("otherwise it becomes out");
        // With two contenders u is the contender's own mark.
        make("50r;51r;", 3);
        wakeAll();
        deliver(2, 0, 2);
        contenderIs("51 is greater than 50 and 50", 0, 50, 0, 1, 51, 1, NONE, 0);
        deliver(0);
        contenderIs("50 is less than 51", 1, 51, 0, 2, 51, 0, NONE, 1);
        deliver(0, 2);
        contenderIs("head by a mark that is not its name", 0, 50, 0, 3, 51, 1, 51, 0);
    }

    private void outLetsMarksGoOn() {
        says("One that is out lets all letters go on.");
        make("3r;2r;1r;", 3);
        wake(0, 1);
        deliver(0, 2, 2);
        contenderIs("never woken", 2, 1, 0, 2, NONE, NONE, NONE, 0);
        letterIs("a first letter", 4, 0, 4, 2, NONE, NONE, NONE);
        letterIs("a second letter", 4, 1, 5, 3, NONE, NONE, NONE);
        make("4r;2r;3r;1r;", 3);
        wakeAll();
        deliver(0, 2, 2, 4, 4, 6, 0, 2, 4, 6, 6, 6);
        contenderIs("out after running", 0, 4, 0, 2, 4, 0, NONE, 1);
        letterIs("a first letter", 0, 0, 4, 3, NONE, NONE, NONE);
        letterIs("a second letter", 0, 1, 5, 4, NONE, NONE, NONE);
    }

    /** The mark of a contender after so many draws, by the document's words. */
    private static int mark(int seed, int contender, int draws, int d) {
        long number = (long) seed * (contender + 1) % 2147483647L;
        for (int i = 0; i < draws; i++) {
            number = number * 16807L % 2147483647L;
        }
        return (int) (1 + number % d);
    }

    /** The least seed by which the contenders draw these marks first; 0 stands for any mark. */
    private static int seedFor(int d, int... marks) {
        for (int seed = 1; seed <= 999999; seed++) {
            boolean fits = true;
            for (int i = 0; i < marks.length; i++) {
                fits = fits && (marks[i] == 0 || mark(seed, i, 1, d) == marks[i]);
            }
            if (fits) {
                return seed;
            }
        }
        throw new IllegalArgumentException("no seed");
    }

    private void marksDrawn() {
        says("Each contender i has a number x, which is seed * (i + 1) modulo 2147483647 when the algorithm is begun.");
        for (int seed : new int[] {1, 2, 127773, 357913, 999998, 999999}) {
            for (int d = 1; d <= 9; d++) {
                make(textOf(6, 'r'), 4, d, seed);
                for (int i = 5; i >= 0; i--) {
                    wake(i);
                    letterIs("seed " + seed + ", d " + d, 2 * i, 0, 6, mark(seed, i, 1, d), 1, 1, 1);
                    contenderIs("seed " + seed + ", d " + d, i, i + 1, 0, 1, mark(seed, i, 1, d), 1, NONE, 0);
                }
            }
        }
    }

    private void leastAndGreatestMark() {
        says("the mark becomes 1 + x % d");
        for (int d = 1; d <= 9; d++) {
            for (int m : new int[] {1, d}) {
                make("5r;9r;", 4, d, seedFor(d, m));
                wake(0);
                due("d " + d + ": contender(0, 3)", x.contender(0, 3), m);
                due("d " + d + ": letter(0, 0, 1)", x.letter(0, 0, 1), m);
            }
        }
    }

    private void drawnAgain() {
        says("To draw means: x becomes x * 16807 modulo 2147483647");
        int seed = seedFor(9, 2, 2);
        make("5r;9r;", 4, 9, seed);
        wakeAll();
        deliver(0, 2, 2, 0);
        for (int i = 0; i < 2; i++) {
            contenderIs("the second draw", i, 5 + 4 * i, 0, 1, mark(seed, i, 2, 9), 2, NONE, 0);
            letterIs("the second draw", 2 * i, 0, 6, mark(seed, i, 2, 9), 2, 1, 1);
        }
    }

    private void marksThatDifferByOne() {
        says("if p is greater than its phase, or equal to it and m greater than its mark, the contender becomes out");
        int[][] oneLess = {{2, 2, 1}, {3, 3, 2}, {9, 9, 8}};
        for (int[] p : oneLess) {
            make("5r;9r;", 4, p[0], seedFor(p[0], p[1], p[2]));
            wakeAll();
            due("deliver(0) = 6; contender(1, 2) = 2; link(2) = 2");
            letterIs("one more goes on, still alone", 2, 1, 6, p[1], 1, 2, 1);
            due("deliver(2) = 6; contender(0, 2) = 1; link(0) = 0; link(2) = 1; sent(6) = 3");
            due("home: deliver(2)", x.deliver(2), 6);
            contenderIs("head by its mark", 0, 5, 0, 3, p[1], 1, p[1], 0);
        }
        says("otherwise it disappears");
        int[][] oneMore = {{2, 1, 2}, {3, 2, 3}, {9, 2, 3}, {9, 3, 4}};
        for (int[] p : oneMore) {
            make("5r;9r;", 4, p[0], seedFor(p[0], p[1], p[2]));
            wakeAll();
            due("deliver(0) = 6; contender(1, 2) = 1; link(2) = 1; count(2) = 1; deliver(2) = 6; contender(0, 2) = 2");
        }
        // Also one that is not alone: that of contender 3 has met its equal in contender 0.
        make("1r;2r;3r;4r;", 4, 3, seedFor(3, 2, 3, 0, 2));
        wake(0, 1, 3);
        deliver(0, 6);
        due("letter(0, 0, 4) = 0; letter(0, 0, 3) = 2; deliver(0) = 6; count(2) = 1; contender(1, 2) = 1");
    }

    private void equalMarks() {
        says("if p and m are equal to its own phase and mark, the token goes on with s + 1 steps and alone 0");
        int[][] pairs = {{1, 1}, {2, 1}, {2, 2}, {9, 1}, {9, 2}};
        for (int[] p : pairs) {
            make("5r;9r;", 4, p[0], seedFor(p[0], p[1], p[1]));
            wakeAll();
            deliver(0);
            contenderIs("equal", 1, 9, 0, 1, p[1], 1, NONE, 0);
            letterIs("its own before it", 2, 0, 6, p[1], 1, 1, 1);
            letterIs("equal", 2, 1, 6, p[1], 1, 2, 0);
        }
    }

    private void lastStepButOne() {
        says("otherwise it goes on with s + 1 steps");
        make(textOf(6, 'r'), 4);
        wake(0, 5);
        for (int i = 0; i < 4; i++) {
            deliver(2 * i);
            letterIs("at one that was asleep", 2 * (i + 1), 0, 6, 1, 1, i + 2, 1);
        }
        // 5 steps of 6 at one that runs and has the same mark.
        deliver(8);
        letterIs("behind its own token", 10, 1, 6, 1, 1, 6, 0);
        deliver(10, 10);
        contenderIs("home, not alone", 0, 1, 0, 1, 1, 2, NONE, 0);
    }

    private void homeAlone() {
        says("if s is n and a is 1, the contender becomes head by m");
        for (int n = 2; n <= 6; n++) {
            make(textOf(n, 'b'), 4, 9, 77);
            wake(0);
            deliver(1);
            for (int i = n - 1; i > 1; i--) {
                deliver(2 * i + 1);
            }
            letterIs(n + " contenders", 3, 0, 6, mark(77, 0, 1, 9), 1, n, 1);
            due(n + " contenders: not yet", x.contender(0, 2), 1);
            deliver(3);
            contenderIs(n + " contenders", 0, 1, 1, 3, mark(77, 0, 1, 9), 1, mark(77, 0, 1, 9), 0);
            due(n + " contenders: sent(6)", x.sent(6), n);
        }
    }

    private void homeNotAlone() {
        says("if s is n and a is 0, its phase increases by 1, and it draws");
        make("5r;9r;", 4);
        wakeAll();
        for (int phase = 1; phase <= 20; phase++) {
            contenderIs("phase " + phase, 0, 5, 0, 1, 1, phase, NONE, 0);
            contenderIs("phase " + phase, 1, 9, 0, 1, 1, phase, NONE, 0);
            deliver(0, 2);
            letterIs("phase " + phase, 2, 0, 6, 1, phase, 2, 0);
            deliver(2);
            letterIs("phase " + phase + ": the next one", 0, 1, 6, 1, phase + 1, 1, 1);
            deliver(0);
        }
    }

    private void aloneStaysZero() {
        says("the contender becomes out and the token goes on with s + 1 steps");
        make("1r;2r;3r;", 4, 2, seedFor(2, 2, 2, 1));
        wakeAll();
        deliver(0, 2);
        letterIs("1 as it was", 4, 1, 6, 2, 1, 2, 1);
        deliver(2);
        letterIs("0 as it was", 4, 2, 6, 2, 1, 3, 0);
        due("deliver(4) = 6; link(0) = 0; deliver(4) = 6");
        letterIs("0 now", 0, 0, 6, 2, 1, 3, 0);
    }

    private void noneWithoutWaking() {
        says("NONE for 3 and 4 if it has not been woken or the algorithm is another one, and for 5 if it knows none (for 3 to 5 also if no algorithm is begun)");
        make("5r;9r;", 0);
        contenderIs("no algorithm", 0, 5, 0, 0, NONE, NONE, NONE, 0);
        int[] marks = {0, NONE, NONE, 9, 1};
        int[] phases = {0, NONE, 0, 0, 1};
        for (int way = 1; way <= 4; way++) {
            make("5r;9r;", way);
            contenderIs("asleep by " + way, 1, 9, 0, 0, NONE, NONE, NONE, 0);
            wake(1);
            contenderIs("running by " + way, 1, 9, 0, 1, marks[way], phases[way], NONE, 0);
            deliver(2);
            contenderIs("out and never woken by " + way, 0, 5, 0, 2, NONE, NONE, NONE, 0);
            x.run(0, 1, 200);
            contenderIs("informed and never woken by " + way, 0, 5, 0, 4, NONE, NONE, way == 4 ? 1 : 9, 0);
            contenderIs("head by " + way, 1, 9, 0, 3, marks[way], way == 2 ? 1 : phases[way], way == 4 ? 1 : 9, 0);
        }
    }

    private void valuesStay() {
        says("Values of 3, 4 and 6 stay as they were when the contender stops running");
        make("5r;1r;9r;", 2);
        wake(0);
        deliver(0, 3);
        wake(2);
        deliver(4);
        contenderIs("out with one reply", 0, 5, 0, 2, NONE, 0, NONE, 1);
        x.run(0, 1, 200);
        contenderIs("informed with one reply", 0, 5, 0, 4, NONE, 0, 9, 1);
        make("50r;51r;", 3);
        wakeAll();
        x.run(0, 1, 200);
        contenderIs("informed, has awaited a second letter", 1, 51, 0, 4, 51, 0, 51, 1);
        contenderIs("head, has awaited a first letter", 0, 50, 0, 3, 51, 1, 51, 0);
        make("1r;2r;", 4, 2, seedFor(2, 1, 2));
        wakeAll();
        x.run(0, 1, 200);
        contenderIs("informed with the lesser mark", 0, 1, 0, 4, 1, 1, 2, 0);
        contenderIs("head with the greater mark", 1, 2, 0, 3, 2, 1, 2, 0);
    }

    private void propertiesOfEachKind() {
        says("NONE if a letter of this kind has none");
        make("5r;9r;", 1);
        wake(1);
        letterIs("a name letter", 2, 0, 1, 9, NONE, NONE, NONE);
        deliver(2, 0);
        letterIs("a crown", 2, 0, 7, 9, NONE, NONE, NONE);
        make("5r;9r;", 2);
        wake(1);
        letterIs("a probe", 2, 0, 2, 9, 0, 1, NONE);
        deliver(2);
        letterIs("a reply", 1, 0, 3, 9, 0, NONE, NONE);
        make("5r;9r;", 3);
        wake(0, 1);
        letterIs("a first letter", 2, 0, 4, 9, NONE, NONE, NONE);
        deliver(2);
        letterIs("a second letter", 0, 1, 5, 9, NONE, NONE, NONE);
        make("5r;9r;", 4);
        wake(0);
        letterIs("a token", 0, 0, 6, 1, 1, 1, 1);
        deliver(0, 2);
        letterIs("a crown with a mark", 0, 0, 7, 1, NONE, NONE, NONE);
    }
}
