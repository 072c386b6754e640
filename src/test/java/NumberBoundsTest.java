/** The boundary cases of the numbers that are counted or computed (promises 13 and 16 to 18). */
public final class NumberBoundsTest extends Bench {
    public static void main(String[] args) {
        new NumberBoundsTest().all();
    }

    private void all() {
        sentWithoutAlgorithm();
        sentEachTime();
        sentOfEachKind();
        sitWithoutRing();
        sitOfEachRing();
        sitOfAnySensesAndNames();
        sitInAnyState();
        oneIsLeftAtOnce();
        noDraw();
        oneMarkOnly();
        zeroIsZeroOfOne();
        oneDraw();
        mostDraws();
        moreThanAnInt();
        chanceInAnyState();
        countsWithoutRing();
        countsWithoutAlgorithm();
        countsOfStates();
        noHeadAndHeadZero();
        countOfBytes();
        countOfLetters();
        check.end();
    }

    private void sentWithoutAlgorithm() {
        says("Returns the number of letters (0 if no algorithm is begun)");
        fresh();
        for (int kind = 0; kind <= 7; kind++) {
            due("no ring: sent(" + kind + ")", x.sent(kind), 0);
        }
        make("5r;9r;", 1);
        wakeAll();
        x.run(0, 1, 200);
        due("sent(0) = 5");
        type("5r;9r;");
        due("ring() = 2");
        for (int kind = 0; kind <= 7; kind++) {
            due("a ring only: sent(" + kind + ")", x.sent(kind), 0);
        }
    }

    private void sentEachTime() {
        says("letters that go on count each time");
        for (int n = 2; n <= 6; n++) {
            make(textOf(n, 'r'), 1);
            wake(0);
            x.run(0, 1, 200);
            due(n + " contenders: sent(1)", x.sent(1), n);
            due(n + " contenders: sent(7)", x.sent(7), n);
            due(n + " contenders: sent(0)", x.sent(0), 2 * n);
        }
        says("since the algorithm was begun");
        due("begin(1, 1, 1) = 1; sent(0) = 0; sent(1) = 0; sent(7) = 0; wake(0) = 1; sent(0) = 1; undo() = 0; sent(0) = 0; sent(1) = 0");
    }

    private void sentOfEachKind() {
        says("1 to 7 for those of this kind, 0 for all");
        // By algorithm 2: two probes and two replies in phase 0, two probes of two steps in phase 1, the crown twice.
        int[][] want = {{4, 2, 0, 0, 0, 0, 0, 2}, {10, 0, 6, 2, 0, 0, 0, 2}, {4, 0, 0, 0, 2, 0, 0, 2}, {4, 0, 0, 0, 0, 0, 2, 2}};
        for (int way = 1; way <= 4; way++) {
            make("5r;9r;", way);
            wake(0);
            x.run(0, 1, 200);
            for (int kind = 0; kind <= 7; kind++) {
                due("algorithm " + way + ": sent(" + kind + ")", x.sent(kind), want[way - 1][kind]);
            }
        }
        make("5r;9r;", 3);
        wakeAll();
        x.run(0, 1, 200);
        // First letters 5, 9 and twice the new mark 9, second letters 9 and 5, the crown twice.
        due("sent(4) = 4; sent(5) = 2; sent(7) = 2; sent(0) = 8");
    }

    private void sitWithoutRing() {
        says("NOT if there is no ring");
        fresh();
        due("sit(0) = NOT; sit(1) = NOT; sit(2) = NOT; sit(3) = NOT; sit(-1) = OUTSIDE; sit(4) = OUTSIDE");
        type("5r;5r;");
        due("sit(0) = NOT; ring() = -103; sit(0) = NOT");
    }

    private void sitOfEachRing() {
        says("numerator and denominator of the mean, a fraction in lowest terms");
        int[][] want = {{3, 3, 3, 1}, {5, 6, 11, 2}, {7, 10, 25, 3}, {9, 15, 137, 12}, {11, 21, 147, 10}};
        for (int n = 2; n <= 6; n++) {
            make(textOf(n, 'r'), 0);
            for (int what = 0; what <= 3; what++) {
                due(n + " contenders: sit(" + what + ")", x.sit(what), want[n - 2][what]);
            }
        }
    }

    private void sitOfAnySensesAndNames() {
        says("if all contenders are woken before anything is delivered and all senses are 0");
        for (String text : new String[] {"1r;2r;3r;", "3b;1b;2b;", "99r;1b;50r;", "2b;3r;1b;"}) {
            make(text, 0);
            due("sit(0) = 5; sit(1) = 6; sit(2) = 11; sit(3) = 2");
        }
        // The least and the greatest number come about in these arrangements.
        make("1r;2r;3r;4r;5r;6r;", 1);
        wakeAll();
        x.run(0, 1, 200);
        due("the least", x.sent(1), x.sit(0));
        make("6r;5r;4r;3r;2r;1r;", 1);
        wakeAll();
        x.run(0, 1, 200);
        due("the greatest", x.sent(1), x.sit(1));
    }

    private void sitInAnyState() {
        says("Considers all arrangements of the names of the ring on its places");
        make("3b;1b;2b;", 2);
        wakeAll();
        x.run(0, 1, 5);
        due("sit(0) = 5; sit(1) = 6; sit(2) = 11; sit(3) = 2; count(1) = 2");
        type("3b;0");
        due("ring() = -103; sit(0) = 5");
        type("3b;1b;");
        due("sit(0) = 5; ring() = 2; sit(0) = 3");
    }

    private void chanceIs(int m, int d, int k, long numerator, long denominator) {
        String call = "chance(" + m + ", " + d + ", " + k;
        due(call + ", 0)", x.chance(m, d, k, 0), numerator);
        due(call + ", 1)", x.chance(m, d, k, 1), denominator);
    }

    private void oneIsLeftAtOnce() {
        says("(with m = 1 this is so at once)");
        for (int d = 1; d <= 3; d++) {
            for (int k = 0; k <= 4; k++) {
                chanceIs(1, d, k, 1, 1);
            }
        }
    }

    private void noDraw() {
        says("the probability that after k draws only one is left");
        for (int m = 2; m <= 5; m++) {
            for (int d = 1; d <= 3; d++) {
                chanceIs(m, d, 0, 0, 1);
            }
        }
    }

    private void oneMarkOnly() {
        says("m contenders draw marks from 1 to d");
        for (int m = 2; m <= 5; m++) {
            for (int k = 1; k <= 4; k++) {
                chanceIs(m, 1, k, 0, 1);
            }
        }
    }

    private void zeroIsZeroOfOne() {
        says("in lowest terms (0 is 0 / 1)");
        chanceIs(2, 3, 0, 0, 1);
        chanceIs(5, 1, 4, 0, 1);
        chanceIs(2, 2, 1, 1, 2);
        chanceIs(3, 3, 1, 5, 9);
    }

    private void oneDraw() {
        says("all equally likely");
        for (int m = 2; m <= 5; m++) {
            for (int d = 2; d <= 3; d++) {
                // All ways to draw, one after the other: those in which the greatest mark occurs once.
                long good = 0;
                long all = Math.round(Math.pow(d, m));
                for (int way = 0; way < all; way++) {
                    int[] times = new int[d];
                    for (int i = 0, rest = way; i < m; i++, rest /= d) {
                        times[rest % d]++;
                    }
                    int greatest = d - 1;
                    while (times[greatest] == 0) {
                        greatest--;
                    }
                    good += times[greatest] == 1 ? 1 : 0;
                }
                long numerator = x.chance(m, d, 1, 0);
                long denominator = x.chance(m, d, 1, 1);
                due("chance(" + m + ", " + d + ", 1) crosswise", numerator * all, good * denominator);
            }
        }
    }

    private void mostDraws() {
        says("those with the greatest mark draw again, if they are more than one, and so on");
        long half = 1;
        long third = 1;
        for (int k = 1; k <= 4; k++) {
            half *= 2;
            third *= 3;
            chanceIs(2, 2, k, half - 1, half);
            chanceIs(2, 3, k, third - 1, third);
        }
        // Three draw: one is left by 3 ways of 8, two by 3, three by 2; then two are left over by half.
        chanceIs(3, 2, 2, 21, 32);
    }

    private void moreThanAnInt() {
        says("Returns that part; OUTSIDE.");
        chanceIs(5, 3, 4, 125187160, 129140163);
        // Without cancelling, the denominator 3^20 would be more than an int holds.
        long greatest = 0;
        for (int m = 1; m <= 5; m++) {
            for (int d = 1; d <= 3; d++) {
                for (int k = 0; k <= 4; k++) {
                    greatest = Math.max(greatest, x.chance(m, d, k, 1));
                    check.due("between 0 and 1", x.chance(m, d, k, 0) >= 0 && x.chance(m, d, k, 0) <= x.chance(m, d, k, 1));
                }
            }
        }
        check.due("the greatest denominator divides 3^20", 3486784401L % greatest == 0 || (1L << 20) % greatest == 0);
    }

    private void chanceInAnyState() {
        says("Returns a part of a probability");
        fresh();
        due("chance(3, 2, 1, 0) = 3; chance(3, 2, 1, 1) = 8");
        make("5r;9r;", 4, 9, 5);
        wakeAll();
        due("chance(3, 2, 1, 0) = 3; chance(3, 2, 1, 1) = 8; count(9) = 2");
    }

    private void countsWithoutRing() {
        says("2 to 7 and 9 are 0 if no algorithm is begun");
        fresh();
        countsAre("new", 0, 0, 0, 0, 0, 0, 0, 0, NONE, 0, 0);
    }

    private void countsWithoutAlgorithm() {
        says("2 to 7 and 9 are 0 if no algorithm is begun");
        for (int n = 2; n <= 6; n++) {
            make(textOf(n, 'r'), 0);
            countsAre(n + " contenders, none begun", n, 0, 0, 0, 0, 0, 0, 0, NONE, 0, 0);
        }
        make("5r;9r;", 1);
        wakeAll();
        x.run(0, 1, 4);
        countsAre("all but the last letter", 2, 1, 1, 0, 0, 0, 1, 1, 1, 3, 0);
        type("5r;9r;");
        due("ring() = 2");
        countsAre("a ring in its place", 2, 0, 0, 0, 0, 0, 0, 0, NONE, 0, 0);
    }

    private void countsOfStates() {
        says("contenders that are 3 asleep, 4 running, 5 out, 6 head, 7 informed");
        make(textOf(6, 'r'), 1);
        countsAre("begun", 6, 1, 0, 6, 0, 0, 0, 0, NONE, 0, 0);
        wake(5);
        countsAre("one runs", 6, 1, 1, 5, 1, 0, 0, 0, NONE, 1, 0);
        deliver(10);
        countsAre("one is out", 6, 1, 1, 4, 1, 1, 0, 0, NONE, 2, 0);
        deliver(0, 2, 4, 6);
        countsAre("all others are out", 6, 1, 1, 0, 1, 5, 0, 0, NONE, 6, 0);
        deliver(8);
        countsAre("head", 6, 1, 1, 0, 0, 5, 1, 0, 5, 7, 0);
        deliver(10);
        countsAre("one is informed", 6, 1, 1, 0, 0, 4, 1, 1, 5, 8, 0);
        x.run(0, 1, 200);
        countsAre("all are informed", 6, 1, 0, 0, 0, 0, 1, 5, 5, 9, 0);
        wakeAll();
        make(textOf(6, 'b'), 2);
        wakeAll();
        countsAre("all run", 6, 2, 12, 0, 6, 0, 0, 0, NONE, 6, 0);
    }

    private void noHeadAndHeadZero() {
        says("NONE for what = 8 if there is no head");
        fresh();
        due("count(8) = NONE; count(6) = 0");
        make("9r;5r;", 0);
        due("count(8) = NONE; begin(1, 1, 1) = 1; count(8) = NONE; wake(0) = 1; count(8) = NONE; deliver(0) = 1; count(8) = NONE");
        due("deliver(2) = 1; count(8) = 0; count(6) = 1; undo() = 2; count(8) = NONE; deliver(2) = 1; count(8) = 0");
        due("begin(1, 1, 1) = 1; count(8) = NONE");
        for (int n = 2; n <= 6; n++) {
            for (int i = 0; i < n; i++) {
                make(textOf(n, 'r'), 1);
                wake(i);
                x.run(0, 1, n);
                due(n + " contenders: count(8)", x.count(8), i);
            }
        }
    }

    private void countOfBytes() {
        says("10 bytes of the text");
        fresh();
        for (int length = 1; length <= 40; length++) {
            x.write(32);
            due("count(10)", x.count(10), length);
        }
        due("write(32) = FULL; count(10) = 40; ring() = -140; count(10) = 0");
    }

    private void countOfLetters() {
        says("2 letters on all links");
        make(textOf(6, 'r'), 2);
        for (int i = 0; i < 6; i++) {
            due("before waking " + i, x.count(2), 2 * i);
            wake(i);
        }
        // 12 probes and 6 replies of phase 0; 8 and 16 letters of phases 1 and 2; 12 of phase 3; the crown 6 times.
        due("count(2) = 12; run(0, 1, 1) = 1; count(2) = 11; undo() = 6; count(2) = 12; run(0, 1, 200) = 60; count(2) = 0");
    }
}
