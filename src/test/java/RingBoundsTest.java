/** The boundary cases of the ring, its links and letters, and of the states (Description; promises 6, 7 and 10 to 12). */
public final class RingBoundsTest extends Bench {
    public static void main(String[] args) {
        new RingBoundsTest().all();
    }

    private void all() {
        atFirstNoRing();
        leastAndGreatestRing();
        leastAndGreatestName();
        forwardNeighbours();
        backwardNeighbours();
        answersOverTheEnds();
        linksOfEach();
        ringOfTwo();
        rightOfEachSense();
        queues();
        onlyLettersThatThereAre();
        begunAnew();
        onlyAsleepCanBeWoken();
        asleepBecomesOut();
        lettersAtTheHead();
        crownGoesRound();
        crownTurns();
        informedAsOut();
        headByItsRight();
        check.end();
    }

    private static int after(int i, int n) {
        return i == n - 1 ? 0 : i + 1;
    }

    private static int before(int i, int n) {
        return i == 0 ? n - 1 : i - 1;
    }

    private void atFirstNoRing() {
        says("at first there is no ring");
        fresh();
        due("count(0) = 0; contender(0, 0) = UNKNOWN; contender(-1, 0) = UNKNOWN; wake(0) = UNKNOWN; wake(-1) = UNKNOWN");
        due("link(0) = UNKNOWN; link(-1) = UNKNOWN; deliver(0) = UNKNOWN; deliver(-1) = UNKNOWN; letter(0, 0, 0) = UNKNOWN");
        due("begin(1, 1, 1) = NOT; begin(2, 1, 1) = NOT; begin(3, 1, 1) = NOT; begin(4, 1, 1) = NOT; run(0, 1, 1) = NOT");
        due("undo() = NOT; would(0, 1, 0) = NOT; foresee(1, 0) = NOT; sit(0) = NOT; sent(0) = 0; count(1) = 0; count(8) = NONE");
    }

    private void leastAndGreatestRing() {
        says("n is 2 to 6");
        for (int n = 2; n <= 6; n++) {
            make(textOf(n, 'r'), 1);
            due("count(0)", x.count(0), n);
            due("the last contender's name", x.contender(n - 1, 0), n);
            due("the last link", x.link(2 * n - 1), 0);
            due("the last contender: wake", x.wake(n - 1), 1);
            due("one beyond the last contender: wake", x.wake(n), UNKNOWN);
            due("one beyond the last contender: contender", x.contender(n, 0), UNKNOWN);
            due("one beyond the last link: link", x.link(2 * n), UNKNOWN);
            due("one beyond the last link: deliver", x.deliver(2 * n), UNKNOWN);
            due("one beyond the last link: letter", x.letter(2 * n, 0, 0), UNKNOWN);
            due("the last link has no letter: deliver", x.deliver(2 * n - 1), NOT);
        }
    }

    private void leastAndGreatestName() {
        says("Each has a name (1 to 99, all different)");
        make("1r;99r;", 1);
        due("contender(0, 0) = 1; contender(1, 0) = 99; wake(0) = 1; wake(1) = 1; letter(0, 0, 1) = 1; letter(2, 0, 1) = 99");
        due("run(0, 1, 200) = 5; contender(0, 5) = 99; contender(1, 5) = 99");
        make("99r;1r;", 1);
        due("wake(1) = 1; run(0, 1, 200) = 4; contender(0, 5) = 1; contender(1, 5) = 1; count(8) = 1");
    }

    private void forwardNeighbours() {
        says("The forward neighbour of contender i is i + 1 (0 for n - 1)");
        for (int n = 2; n <= 6; n++) {
            for (int i = 0; i < n; i++) {
                make(textOf(n, 'r'), 1);
                wake(i);
                deliver(2 * i);
                String claim = n + " contenders, forward from " + i;
                due(claim + ": the neighbour's state", x.contender(after(i, n), 2), 2);
                due(claim + ": no other is out", x.count(5), 1);
                due(claim + ": the letter goes on", x.link(2 * after(i, n)), 1);
                due(claim + ": no other letter", x.count(2), 1);
            }
        }
    }

    private void backwardNeighbours() {
        says("its backward neighbour i - 1 (n - 1 for 0)");
        for (int n = 2; n <= 6; n++) {
            for (int i = 0; i < n; i++) {
                make(textOf(n, 'b'), 1);
                wake(i);
                deliver(2 * i + 1);
                String claim = n + " contenders, backward from " + i;
                due(claim + ": the neighbour's state", x.contender(before(i, n), 2), 2);
                due(claim + ": no other is out", x.count(5), 1);
                due(claim + ": the letter goes on", x.link(2 * before(i, n) + 1), 1);
                due(claim + ": no other letter", x.count(2), 1);
            }
        }
    }

    private void answersOverTheEnds() {
        says("to answer means to send a letter over the link of the receiver in the opposite direction");
        for (int n = 2; n <= 6; n++) {
            for (int i = 0; i < n; i++) {
                make(textOf(n, 'b'), 2);
                wake(i);
                deliver(2 * i);
                letterIs("the answer to " + i + " of " + n, 2 * after(i, n) + 1, 0, 3, i + 1, 0);
                deliver(2 * after(i, n) + 1);
                due("it comes to " + i + " of " + n, x.contender(i, 6), 1);
                deliver(2 * i + 1);
                letterIs("the answer to " + i + " of " + n, 2 * before(i, n), 0, 3, i + 1, 0);
                deliver(2 * before(i, n));
                due("it comes to " + i + " of " + n + ": phase", x.contender(i, 4), 1);
            }
        }
    }

    private void linksOfEach() {
        says("Link 2 * i leads from i to its forward neighbour, link 2 * i + 1 to its backward neighbour.");
        for (int n = 2; n <= 6; n++) {
            for (int i = 0; i < n; i++) {
                make(textOf(n, 'r'), 2);
                wake(i);
                for (int link = 0; link < 2 * n; link++) {
                    due(n + " contenders, " + i + " woken: link(" + link + ")", x.link(link), link / 2 == i ? 1 : 0);
                }
            }
        }
    }

    private void ringOfTwo() {
        says("A letter that was delivered over an even link moves forward, otherwise it moves backward.");
        // Both links of a contender lead to the other one, but a letter keeps its direction.
        make("1r;2r;", 1);
        wake(1);
        deliver(2);
        due("link(0) = 1; link(1) = 0");
        make("1b;2b;", 1);
        wake(1);
        deliver(3);
        due("link(0) = 0; link(1) = 1");
        // The receiver's own sense does not matter.
        make("1b;2r;", 1);
        wake(1);
        deliver(2);
        due("link(0) = 1; link(1) = 0");
        make("1r;2b;", 1);
        wake(1);
        deliver(3);
        due("link(0) = 0; link(1) = 1");
    }

    private void rightOfEachSense() {
        says("to send to the right means to send over the link to the right of the sender");
        make("1r;2b;3r;4b;5r;6b;", 1);
        wakeAll();
        for (int i = 0; i < 6; i++) {
            due("the right of " + i, x.link(2 * i + i % 2), 1);
            due("the left of " + i, x.link(2 * i + 1 - i % 2), 0);
        }
    }

    private void queues() {
        says("a letter that is sent over it is appended, and the first one is delivered");
        make("3r;2r;1r;", 1);
        wakeAll();
        deliver(0, 2, 2);
        due("link(4) = 3; letter(4, 0, 1) = 1; letter(4, 1, 1) = 2; letter(4, 2, 1) = 3; letter(4, 3, 1) = UNKNOWN");
        due("deliver(4) = 1; link(4) = 2; letter(4, 0, 1) = 2; letter(4, 1, 1) = 3; letter(4, 2, 1) = UNKNOWN");
        due("deliver(4) = 1; link(4) = 1; letter(4, 0, 1) = 3; letter(4, 1, 1) = UNKNOWN; count(8) = NONE");
        due("deliver(4) = 1; link(4) = 0; letter(4, 0, 1) = UNKNOWN; deliver(4) = NOT; count(8) = 0");
    }

    private void onlyLettersThatThereAre() {
        says("NOT if there is no letter (also if no algorithm is begun)");
        make("1r;2r;", 0);
        due("deliver(0) = NOT; deliver(3) = NOT; deliver(4) = UNKNOWN");
        make("1r;2r;", 1);
        due("deliver(0) = NOT; deliver(3) = NOT; wake(0) = 1; deliver(1) = NOT; deliver(2) = NOT; deliver(0) = 1; deliver(0) = NOT");
        says("its index in the queue, 0 for the first one");
        make("1r;2r;", 0);
        due("letter(0, 0, 0) = UNKNOWN");
        make("1r;2r;", 1);
        due("letter(0, 0, 0) = UNKNOWN; wake(0) = 1; letter(0, -1, 0) = UNKNOWN; letter(0, 0, 0) = 1; letter(0, 1, 0) = UNKNOWN");
        due("letter(1, 0, 0) = UNKNOWN; letter(0, 2147483647, 0) = UNKNOWN; letter(0, -2147483648, 0) = UNKNOWN");
    }

    private void begunAnew() {
        says("An algorithm is begun with all contenders asleep (0), without letters, and with the senses of the text.");
        make("1r;2b;", 1);
        wake(1);
        x.run(0, 1, 3);
        due("contender(0, 1) = 1; contender(0, 2) = 4; count(2) = 1; sent(0) = 4");
        due("begin(1, 1, 1) = 1; count(3) = 2; count(2) = 0; link(1) = 0; sent(0) = 0; sent(1) = 0; sent(7) = 0; count(9) = 0");
        contenderIs("begun anew", 0, 1, 0, 0, NONE, NONE, NONE, 0);
        contenderIs("begun anew", 1, 2, 1, 0, NONE, NONE, NONE, 0);
        for (int way = 2; way <= 4; way++) {
            make("1b;2b;3b;", way, 9, 5);
            wakeAll();
            x.run(0, 1, 7);
            due("begin(" + way + ", 9, 5) = 1; count(3) = 3; count(2) = 0; sent(0) = 0");
            for (int i = 0; i < 3; i++) {
                contenderIs("begun anew by " + way, i, i + 1, 1, 0, NONE, NONE, NONE, 0);
            }
        }
    }

    private void onlyAsleepCanBeWoken() {
        says("NOT if no algorithm is begun or it is not asleep");
        make("1r;2r;3r;", 0);
        due("wake(0) = NOT; wake(2) = NOT; wake(3) = UNKNOWN");
        for (int way = 1; way <= 4; way++) {
            make("1r;2r;3r;", way);
            due("running: wake(1)", x.wake(1), way == 2 ? 2 : 1);
            due("contender(1, 2) = 1; wake(1) = NOT");
            deliver(2);
            due("contender(2, 2) = 2; wake(2) = NOT");
            x.run(0, 1, 200);
            due("contender(1, 2) = 3; wake(1) = NOT; contender(0, 2) = 4; wake(0) = NOT; wake(2) = NOT");
        }
    }

    private void asleepBecomesOut() {
        says("If a letter is delivered to one that is asleep, it becomes out before the letter is handled.");
        int[] kinds = {0, 1, 2, 4, 6};
        for (int way = 1; way <= 4; way++) {
            // The receiver has the greater name; being out, it does not keep the letter all the same.
            make("1r;2r;3r;", way);
            wake(0);
            due("by " + way + ": deliver(0)", x.deliver(0), kinds[way]);
            contenderIs("by " + way, 1, 2, 0, 2, NONE, NONE, NONE, 0);
            due("by " + way + ": a letter goes on or back", x.link(2) + x.link(3), 1);
            due("by " + way + ": others still asleep", x.count(3), 1);
        }
    }

    private void lettersAtTheHead() {
        says("A letter that is delivered to the head disappears.");
        // A name that moves against the head's own.
        make("2b;1r;", 1);
        wakeAll();
        deliver(1, 3);
        due("count(8) = 0; link(2) = 1; letter(2, 0, 1) = 1; sent(0) = 4; deliver(2) = 1; count(2) = 1; sent(0) = 4; count(8) = 0");
        // The crown, when it has come round.
        due("deliver(1) = 7; deliver(3) = 7; count(2) = 0; sent(7) = 2; contender(0, 2) = 3; contender(0, 5) = 2");
        // The probe that comes home second.
        make("2r;1r;", 2);
        wake(0);
        deliver(0, 1, 2, 3, 0, 1, 2);
        due("count(8) = 0; link(3) = 1; letter(3, 0, 0) = 2; letter(3, 0, 1) = 2; sent(0) = 9");
        due("deliver(3) = 2; link(3) = 0; sent(0) = 9; count(2) = 1; contender(0, 6) = 0; contender(0, 2) = 3");
        for (int way = 3; way <= 4; way++) {
            make("2r;1r;", way);
            wake(0);
            deliver(0, 2, 0);
            due("count(8) = 0; deliver(2) = 7; count(2) = 0; count(6) = 1; sent(7) = 2; contender(0, 2) = 3");
        }
    }

    private void crownGoesRound() {
        says("If a crown with a number v is delivered to any other contender, it becomes informed and knows v");
        for (int n = 2; n <= 6; n++) {
            make(textOf(n, 'r'), 1);
            wake(n - 1);
            x.run(0, 1, n);
            due(n + " contenders: the head", x.count(8), n - 1);
            for (int i = 0; i < n - 1; i++) {
                due(n + " contenders: " + i + " knows nothing yet", x.contender(i, 5), NONE);
                due(n + " contenders: informed", x.run(0, 1, 1), 1);
                contenderIs(n + " contenders", i, i + 1, 0, 4, NONE, NONE, n, 0);
                letterIs("and the crown goes on", 2 * i, 0, 7, n, NONE, NONE, NONE);
                due(n + " contenders: count(7)", x.count(7), i + 1);
            }
            due(n + " contenders: at the head", x.run(0, 1, 200), 1);
            due(n + " contenders: sent(7)", x.sent(7), n);
        }
    }

    private void crownTurns() {
        says("its right becomes the direction in which the crown moves");
        make("1b;2r;3b;", 1);
        wake(1);
        x.run(0, 1, 200);
        due("count(8) = 1; contender(0, 1) = 0; contender(1, 1) = 0; contender(2, 1) = 0");
        make("1r;2b;3r;", 1);
        wake(1);
        x.run(0, 1, 200);
        due("count(8) = 1; contender(0, 1) = 1; contender(1, 1) = 1; contender(2, 1) = 1");
        make("1b;2b;", 1);
        wake(1);
        x.run(0, 1, 200);
        due("contender(0, 1) = 1; contender(1, 1) = 1");
    }

    private void informedAsOut() {
        says("All other letters are handled as the algorithm says, by one that is informed as by one that is out.");
        // Names that move against the crown, a lesser and a greater one than the receiver's.
        make("3r;2b;1r;", 1);
        wake(1, 2);
        deliver(3, 1, 5, 3);
        contenderIs("informed", 0, 3, 1, 4, NONE, NONE, 2, 0);
        due("deliver(4) = 1; letter(0, 0, 1) = 1; link(4) = 0; contender(0, 2) = 4; contender(0, 5) = 2; deliver(0) = 1; link(2) = 0");
        make("3b;2r;1r;", 1);
        wake(0, 1);
        deliver(1, 5, 3, 1);
        contenderIs("informed", 2, 1, 1, 4, NONE, NONE, 3, 0);
        due("deliver(2) = 1; letter(4, 0, 1) = 2; contender(2, 2) = 4");
        // A probe with steps left.
        make("2r;1r;", 2);
        wake(0);
        deliver(0, 1, 2, 3, 0, 2, 0);
        due("contender(1, 2) = 4; letter(1, 0, 3) = 2; deliver(1) = 2; letter(3, 0, 0) = 2; letter(3, 0, 3) = 1; contender(1, 2) = 4");
        // A reply to one that is informed by now: the second one to 3, behind a probe of 4 on link 7.
        make("4r;2r;3r;1r;", 2);
        wake(0, 2);
        deliver(0, 1, 3, 5, 2, 6, 0, 1, 2, 4, 5, 3, 7, 4, 6, 0, 2, 4, 6, 0, 2);
        contenderIs("informed", 2, 3, 0, 4, NONE, 0, 4, 1);
        due("link(7) = 1; letter(7, 0, 0) = 3; letter(7, 0, 1) = 3; deliver(7) = 3; link(7) = 0; contender(2, 6) = 1; contender(2, 4) = 0");
    }

    private void headByItsRight() {
        says("the contender becomes head, knows v, and sends a crown with v to its right");
        for (int way = 1; way <= 4; way++) {
            for (int sense = 0; sense <= 1; sense++) {
                make(sense == 0 ? "7r;5r;" : "7b;5b;", way);
                wake(0);
                due("by " + way + ": before", x.contender(0, 5), NONE);
                // By 2: two probes and two replies in phase 0, then both probes one step and the forward one home.
                x.run(0, 1, way == 2 ? 7 : 2);
                String claim = "by " + way + ", sense " + sense;
                int v = way == 4 ? 1 : 7;
                due(claim + ": count(8)", x.count(8), 0);
                due(claim + ": it knows", x.contender(0, 5), v);
                letterIs(claim, sense, x.link(sense) - 1, 7, v, NONE, NONE, NONE);
                due(claim + ": one crown", x.sent(7), 1);
            }
        }
    }
}
