import java.util.ArrayList;
import java.util.List;

/** The boundary cases of runs, undoing, trying out and foreseeing (promises 8, 9, 14 and 15). */
public final class RunBoundsTest extends Bench {
    public static void main(String[] args) {
        new RunBoundsTest().all();
    }

    private void all() {
        runEndsByItsNumber();
        runEndsWithoutLetters();
        runAroundItsNumber();
        runOfNoLetter();
        runWithoutAlgorithm();
        leastLink();
        greatestLink();
        greaterLinkOrLeast();
        strictlyGreaterLink();
        sameLinkAgain();
        beginsAnewInEachRun();
        linkByNumber();
        nothingToUndo();
        whatCanBeUndone();
        whatCannotBeUndone();
        everythingAsBefore();
        twentiethAndTwentyFirst();
        moreThanTwentyStepByStep();
        twentyAndThenNone();
        undoneAndDoneOtherwise();
        forgottenByBeginAndRing();
        keptByRefusedCalls();
        wouldEndsByItsNumber();
        wouldEndsWithoutLetters();
        wouldAroundItsNumber();
        wouldOfNoLetter();
        wouldAsTheRun();
        foreseeOfNoLetter();
        foreseeEndsEarlier();
        foreseeByTrying();
        sixLinks();
        sevenLinks();
        moreLettersThanLinks();
        moreLinksLater();
        lastPromisedCall();
        check.end();
    }

    private void runEndsByItsNumber() {
        says("until there are none on any link or a given number is delivered");
        // Five letters are delivered in all.
        for (int order = 0; order <= 3; order++) {
            for (int most = 0; most <= 5; most++) {
                make("5r;9r;", 1);
                wakeAll();
                due("run(" + order + ", 1, " + most + ") = " + most);
                check.due("letters are left after " + most, (x.count(2) > 0) == (most < 5));
            }
        }
        make("5r;9r;", 4);
        wakeAll();
        due("run(0, 1, 200) = 200; count(2) = 2; run(1, 1, 200) = 200; run(2, 1, 200) = 200; run(3, 1, 200) = 200; count(2) = 2");
    }

    private void runEndsWithoutLetters() {
        says("Returns how many letters were delivered");
        for (int order = 0; order <= 3; order++) {
            for (int most : new int[] {6, 7, 199, 200}) {
                make("5r;9r;", 1);
                wakeAll();
                due("run(" + order + ", 1, " + most + ") = 5; count(2) = 0; run(" + order + ", 1, " + most + ") = 0");
            }
        }
    }

    private void runOfNoLetter() {
        says("a run that delivers at least one letter can be undone");
        make("5r;9r;", 1);
        due("run(0, 1, 200) = 0; count(9) = 0; undo() = NOT; wake(0) = 1; run(0, 1, 0) = 0; count(9) = 1; run(0, 1, 1) = 1; count(9) = 2");
        due("run(0, 1, 200) = 3; count(9) = 3; run(0, 1, 200) = 0; count(9) = 3; undo() = 2; count(2) = 1");
    }

    private void runWithoutAlgorithm() {
        says("NOT if no algorithm is begun");
        fresh();
        due("run(0, 1, 0) = NOT; run(0, 1, 1) = NOT; would(0, 1, 0) = NOT; foresee(1, 0) = NOT; undo() = NOT");
        make("5r;9r;", 0);
        due("run(0, 1, 0) = NOT; run(3, 1, 200) = NOT; would(0, 1, 4) = NOT; foresee(3, 3) = NOT; undo() = NOT");
        due("begin(1, 1, 1) = 1; run(0, 1, 0) = 0; would(0, 1, 4) = 1; foresee(3, 3) = 1; undo() = NOT");
    }

    private void linksAre(String claim, int... letters) {
        for (int link = 0; link < letters.length; link++) {
            due(claim + ": link(" + link + ")", x.link(link), letters[link]);
        }
    }

    private void leastLink() {
        says("By order 0 each letter is taken from the least link that has letters");
        // Each name but the greatest one disappears at its neighbour.
        make(textOf(6, 'r'), 1);
        wakeAll();
        linksAre("all woken", 1, 0, 1, 0, 1, 0, 1, 0, 1, 0, 1, 0);
        due("run(0, 1, 1) = 1");
        linksAre("link 0 first", 0, 0, 1, 0, 1, 0, 1, 0, 1, 0, 1, 0);
        due("run(0, 1, 4) = 4");
        linksAre("then 2 to 8", 0, 0, 0, 0, 0, 0, 0, 0, 0, 0, 1, 0);
        due("run(0, 1, 1) = 1");
        linksAre("then 10", 1, 0, 0, 0, 0, 0, 0, 0, 0, 0, 0, 0);
        // A lesser link that has letters again comes before a greater one.
        make("1b;2b;3b;", 1);
        wakeAll();
        due("run(0, 1, 3) = 3");
        linksAre("1, 3 and 1 again", 0, 0, 0, 0, 0, 1);
    }

    private void greatestLink() {
        says("by 1 from the greatest one");
        make("6b;5b;4b;3b;2b;1b;", 1);
        wakeAll();
        linksAre("all woken", 0, 1, 0, 1, 0, 1, 0, 1, 0, 1, 0, 1);
        due("run(1, 1, 1) = 1");
        linksAre("link 11 first", 0, 1, 0, 1, 0, 1, 0, 1, 0, 1, 0, 0);
        due("run(1, 1, 4) = 4");
        linksAre("then 9 to 3", 0, 1, 0, 0, 0, 0, 0, 0, 0, 0, 0, 0);
        due("run(1, 1, 1) = 1");
        linksAre("then 1", 0, 0, 0, 0, 0, 0, 0, 0, 0, 0, 0, 1);
        // A greater link that has letters again comes before a lesser one.
        make("3r;2r;1r;", 1);
        wakeAll();
        due("run(1, 1, 3) = 3");
        linksAre("4, 2 and 4 again", 1, 0, 0, 0, 0, 0);
    }

    private void greaterLinkOrLeast() {
        says("by 2 from the least link with letters that is greater than the link from which this run delivered before, or, if there is none (and at first), from the least link with letters");
        int[][] after = {{1, 1, 1}, {0, 1, 1}, {1, 0, 1}, {1, 1, 0}, {0, 1, 0}, {1, 0, 0}, {0, 0, 1}, {0, 1, 0}, {1, 0, 0}, {0, 0, 0}};
        for (int most = 0; most < after.length; most++) {
            make("1b;2b;3b;", 1);
            wakeAll();
            due("run(2, 1, " + most + ") = " + most);
            linksAre("after " + most, 0, after[most][0], 0, after[most][1], 0, after[most][2]);
        }
        due("run(2, 1, 200) = 0; count(8) = 2");
        // At first also from link 0, and the last link of all is followed by it.
        make(textOf(6, 'r'), 2);
        wakeAll();
        due("run(2, 1, 1) = 1; link(0) = 0; undo() = 6; run(2, 1, 12) = 12; link(11) = 0; count(2) = 6");
    }

    private void strictlyGreaterLink() {
        says("that is greater than the link from which this run delivered before");
        make("1r;2r;9r;", 1);
        wakeAll();
        deliver(4);
        linksAre("two letters on link 0", 2, 0, 1, 0, 0, 0);
        due("run(2, 1, 2) = 2");
        linksAre("0 and 2, not 0 twice", 1, 0, 0, 0, 0, 0);
    }

    private void sameLinkAgain() {
        says("or, if there is none (and at first), from the least link with letters");
        make("9r;1r;5r;", 1);
        wakeAll();
        deliver(0, 4);
        linksAre("two letters on link 2 only", 0, 0, 2, 0, 0, 0);
        due("run(2, 1, 2) = 2");
        linksAre("2 twice", 0, 0, 0, 0, 1, 0);
    }

    private void beginsAnewInEachRun() {
        says("the link from which this run delivered before");
        make("1b;2b;3b;", 1);
        wakeAll();
        due("run(2, 1, 2) = 2; run(2, 1, 1) = 1");
        linksAre("the second run begins at link 1", 0, 0, 0, 0, 0, 1);
        make("1b;2b;3b;", 1);
        wakeAll();
        deliver(1, 3);
        due("run(2, 1, 1) = 1");
        linksAre("a delivery before does not count", 0, 0, 0, 0, 0, 1);
    }

    private void linkByNumber() {
        says("by 3 from the link with the index y % (number of links with letters) among the links with letters in ascending order");
        for (int seed : new int[] {1, 2, 3, 127773, 999998, 999999}) {
            long y = seed;
            for (int most = 1; most <= 14; most++) {
                sixProbing();
                x.run(3, seed, most - 1);
                List<Integer> busy = busyLinks();
                y = y * 16807L % 2147483647L;
                x.deliver(busy.get((int) (y % busy.size())));
                List<Long> want = algorithmOf(x);
                sixProbing();
                due("run(3, " + seed + ", " + most + ") = " + most);
                check.due("the links of run(3, " + seed + ", " + most + ")", algorithmOf(x).equals(want));
            }
        }
        // One link only: index 0 whatever y is.
        make("5r;9r;", 1);
        wake(1);
        due("run(3, 999999, 200) = 4; count(8) = 1");
    }

    private void sixProbing() {
        make("3r;6b;1r;5b;2r;4b;", 2);
        wakeAll();
    }

    private List<Integer> busyLinks() {
        List<Integer> busy = new ArrayList<>();
        for (int link = 0; link < 2 * x.count(0); link++) {
            if (x.link(link) > 0) {
                busy.add(link);
            }
        }
        return busy;
    }

    private void nothingToUndo() {
        says("Returns how many can still be undone; NOT if there is none.");
        fresh();
        due("undo() = NOT; count(9) = 0");
        make("5r;9r;", 0);
        due("undo() = NOT; count(9) = 0; begin(1, 1, 1) = 1; undo() = NOT; count(9) = 0");
        due("wake(0) = 1; wake(1) = 1; undo() = 1; undo() = 0; undo() = NOT; undo() = NOT; count(9) = 0; count(3) = 2; count(1) = 1");
    }

    private void whatCanBeUndone() {
        says("Waking, delivering a letter, and a run that delivers at least one letter can be undone, the latest one first");
        make("5r;9r;", 1);
        due("wake(0) = 1; count(9) = 1; wake(1) = 1; count(9) = 2; deliver(2) = 1; count(9) = 3; run(0, 1, 1) = 1; count(9) = 4");
        due("run(0, 1, 200) = 3; count(9) = 5; count(8) = 1; count(7) = 1");
        due("undo() = 4; count(9) = 4; count(8) = NONE; link(0) = 1; sent(0) = 3");
        due("undo() = 3; count(9) = 3; link(0) = 2; sent(0) = 3");
        due("undo() = 2; count(9) = 2; link(0) = 1; link(2) = 1; contender(0, 2) = 1; sent(0) = 2");
        due("undo() = 1; count(9) = 1; contender(1, 2) = 0; link(2) = 0; sent(0) = 1");
        due("undo() = 0; count(9) = 0; contender(0, 2) = 0; link(0) = 0; sent(0) = 0; sent(1) = 0");
    }

    private void whatCannotBeUndone() {
        says("can be undone");
        make("5r;9r;", 1);
        wake(0);
        due("would(0, 1, 0) = 4; foresee(3, 3) = 1; write(49) = 1; contender(0, 0) = 5; run(0, 1, 0) = 0; count(9) = 1");
        due("undo() = 0; count(10) = 1; count(3) = 2; undo() = NOT; count(10) = 1");
        // Undoing concerns the algorithm only: the text and its fault stay.
        due("wake(0) = 1; ring() = -101; fault() = 1; write(50) = 1; undo() = 0; fault() = 1; count(10) = 1; count(3) = 2");
    }

    /** A game of each algorithm, in which all kinds of actions take place. */
    private static List<String> actionsOf(int way) {
        List<String> actions = new ArrayList<>(List.of("wake(0)", "wake(2)", "run(0, 1, 1)", "run(1, 1, 2)", "wake(1)", "run(3, 8, 3)"));
        for (int i = 0; i < 40; i++) {
            actions.add("run(" + i % 4 + ", " + (i + 1) + ", " + (way == 4 ? 1 + i % 3 : 1) + ")");
        }
        return actions;
    }

    /** Plays so many of the actions that could be undone, and returns how many there were. */
    private int play(int way, int most) {
        make(way <= 2 ? "5r;4b;9b;7r;" : "5r;4r;9r;7r;", way, 1, 31);
        int done = 0;
        for (String action : actionsOf(way)) {
            if (done < most && Calls.make(x, action) > 0) {
                done++;
            }
        }
        return done;
    }

    private void everythingAsBefore() {
        says("Everything about the algorithm is then as before, also how many letters were sent.");
        for (int way = 1; way <= 4; way++) {
            int all = play(way, 100);
            for (int most = 0; most < all; most++) {
                play(way, most);
                List<Long> before = algorithmOf(x);
                x.run(3, 99, 30);
                List<Long> later = algorithmOf(x);
                play(way, most + 1);
                due("algorithm " + way + ", " + most + ": undo()", x.undo(), Math.min(most, 19));
                check.due("algorithm " + way + ", " + most + ": as before", algorithmOf(x).equals(before));
                x.run(3, 99, 30);
                check.due("algorithm " + way + ", " + most + ": and it goes on as before", algorithmOf(x).equals(later));
            }
        }
    }

    private void twentiethAndTwentyFirst() {
        says("at most the latest 20 of these since the algorithm was begun");
        for (int actions : new int[] {1, 2, 18, 19, 20, 21, 22, 23, 39, 40, 41, 42}) {
            due("so many actions", play(4, actions), actions);
            int kept = Math.min(actions, 20);
            due("count(9) after " + actions, x.count(9), kept);
            for (int left = kept - 1; left >= 0; left--) {
                due("after " + actions + ": undo()", x.undo(), left);
            }
            due("undo() = NOT; count(9) = 0");
            List<Long> rest = algorithmOf(x);
            play(4, actions - kept);
            check.due("after " + actions + ": those before the latest 20 stay", algorithmOf(x).equals(rest));
        }
    }

    private void moreThanTwentyStepByStep() {
        says("the latest one first");
        for (int actions : new int[] {20, 21, 40, 45}) {
            for (int undone = 1; undone <= 20; undone++) {
                due("so many actions", play(4, actions), actions);
                for (int i = 0; i < undone; i++) {
                    x.undo();
                }
                List<Long> got = algorithmOf(x);
                play(4, actions - undone);
                check.due(undone + " of " + actions + " undone", algorithmOf(x).equals(got));
            }
        }
    }

    private void twentyAndThenNone() {
        says("a run that delivers at least one letter");
        // With 20 kept, what cannot be undone does not push the oldest one out.
        play(4, 20);
        due("run(0, 1, 0) = 0; count(9) = 20; wake(0) = NOT; deliver(99) = UNKNOWN; run(0, 1, 201) = OUTSIDE; would(0, 1, 4) = 0");
        for (int left = 19; left >= 0; left--) {
            due("undo()", x.undo(), left);
        }
        due("undo() = NOT; count(3) = 4; sent(0) = 0");
    }

    private void undoneAndDoneOtherwise() {
        says("Undoes the latest action that can be undone.");
        play(4, 25);
        due("undo() = 19; undo() = 18; undo() = 17; run(1, 1, 1) = 1; count(9) = 18; undo() = 17");
        List<Long> got = algorithmOf(x);
        play(4, 22);
        check.due("three undone, one done and undone", algorithmOf(x).equals(got));
        due("count(9) = 20; run(1, 1, 1) = 1; count(9) = 20; run(1, 1, 1) = 1; count(9) = 20");
    }

    private void forgottenByBeginAndRing() {
        says("Nothing can be undone then.");
        for (int actions : new int[] {1, 20, 30}) {
            play(4, actions);
            due("begin(4, 1, 31) = 1; count(9) = 0; undo() = NOT; wake(0) = 1; count(9) = 1; undo() = 0; undo() = NOT; count(3) = 4");
            play(4, actions);
            type("5r;9r;");
            due("ring() = 2; count(9) = 0; undo() = NOT; begin(1, 1, 1) = 1; undo() = NOT; wake(0) = 1; undo() = 0; undo() = NOT");
        }
    }

    private void keptByRefusedCalls() {
        says("A failed call changes nothing.");
        play(4, 20);
        due("begin(5, 1, 1) = OUTSIDE; begin(1, 1, 0) = OUTSIDE; count(9) = 20; ring() = -100; count(9) = 20; undo() = 19");
        make("5r;9b;", 1);
        wakeAll();
        due("begin(3, 1, 1) = NOT; begin(4, 1, 1) = NOT; count(9) = 2; count(1) = 1; undo() = 1; undo() = 0; undo() = NOT");
    }

    private void wouldEndsByItsNumber() {
        says("Returns what a run of at most 300 letters would lead to.");
        // Two equal tokens go round for ever; each delivery sends one letter.
        make("5r;9r;", 4);
        wakeAll();
        for (int order = 0; order <= 3; order++) {
            due("would(" + order + ", 7, 0) = 300; would(" + order + ", 7, 1) = 300; would(" + order + ", 7, 2) = NONE");
            due("would(" + order + ", 7, 3) = 0; would(" + order + ", 7, 4) = 0");
        }
        due("count(2) = 2; sent(0) = 2; run(0, 1, 200) = 200; would(0, 1, 0) = 300; run(0, 1, 200) = 200; sent(0) = 402");
    }

    private void wouldEndsWithoutLetters() {
        says("whether there are no letters at the end (1 or 0)");
        make("5r;9r;7r;", 1);
        wakeAll();
        // 5 one step, 7 two, 9 and the crown three each.
        for (int order = 0; order <= 3; order++) {
            due("would(" + order + ", 7, 0) = 9; would(" + order + ", 7, 1) = 6; would(" + order + ", 7, 2) = 1");
            due("would(" + order + ", 7, 3) = 3; would(" + order + ", 7, 4) = 1");
        }
    }

    /** So many letters of a long election by order 0 are left; its marks are equal in 39 phases. */
    private void longElection(int left) {
        make(textOf(6, 'r'), 4, 2, 253516);
        wakeAll();
        int all = 537;
        for (int before = all - left; before > 0; before -= 200) {
            due("the letters before", x.run(0, 1, Math.min(before, 200)), Math.min(before, 200));
        }
    }

    private void runAroundItsNumber() {
        says("until there are none on any link or a given number is delivered");
        for (int left : new int[] {1, 2, 198, 199, 200, 201, 202, 300}) {
            longElection(left);
            due("with " + left + " letters left: run(0, 1, 200)", x.run(0, 1, 200), Math.min(left, 200));
            check.due("letters are left after 200 of " + left, (x.count(2) > 0) == (left > 200));
            due("the rest of " + left + ": run(0, 1, 200)", x.run(0, 1, 200), Math.max(left - 200, 0));
            due("count(2) = 0; count(6) = 1; count(7) = 5");
        }
    }

    private void wouldAroundItsNumber() {
        says("Returns what a run of at most 300 letters would lead to.");
        for (int left : new int[] {199, 200, 201, 298, 299, 300, 301, 302, 303, 306, 307, 400, 537}) {
            longElection(left);
            int[] got = new int[5];
            for (int what = 0; what <= 4; what++) {
                got[what] = x.would(0, 1, what);
            }
            int sent = x.sent(0);
            x.run(0, 1, 200);
            x.run(0, 1, 100);
            String claim = "with " + left + " letters left: would of ";
            due(claim + "0", got[0], Math.min(left, 300));
            due(claim + "1", got[1], x.sent(0) - sent);
            due(claim + "2", got[2], left <= 306 ? x.count(8) : NONE);
            // The last six letters are the crown's; each one but the last informs another contender.
            due(claim + "3", got[3], left <= 301 ? 6 : Math.max(307 - left, 0));
            due(claim + "4", got[4], left <= 300 ? 1 : 0);
        }
    }

    private void wouldOfNoLetter() {
        says("NONE for what = 2 if there is no head");
        make("5r;9r;7r;", 1);
        due("would(0, 1, 0) = 0; would(0, 1, 1) = 0; would(0, 1, 2) = NONE; would(0, 1, 3) = 0; would(0, 1, 4) = 1");
        wake(2);
        x.run(0, 1, 200);
        due("would(0, 1, 0) = 0; would(0, 1, 1) = 0; would(0, 1, 2) = 2; would(0, 1, 3) = 3; would(0, 1, 4) = 1");
        // Contender 0 can be head as well; it is not the same as none.
        make("9r;5r;", 1);
        wake(1);
        due("would(0, 1, 2) = 1; undo() = 0; wake(0) = 1; would(0, 1, 2) = 0; count(8) = NONE; run(0, 1, 2) = 2; count(8) = 0");
    }

    private void wouldAsTheRun() {
        says("Returns what a run of at most 300 letters would lead to.");
        for (int way = 1; way <= 4; way++) {
            for (int order = 0; order <= 3; order++) {
                for (int seed = 1; seed <= 999999; seed += 333333) {
                    make("5r;4r;9r;7r;1r;", way, 9, 31);
                    wakeAll();
                    x.run(0, 1, 3);
                    wouldIsAsTheRun("algorithm " + way, order, seed);
                }
            }
        }
        // With few marks the greatest one occurs twice now and then, and is drawn again while it is tried.
        for (int seed = 1; seed <= 40; seed++) {
            make("5b;4b;9b;", 4, 2 + seed % 2, seed);
            wakeAll();
            wouldIsAsTheRun("marks by seed " + seed, seed % 4, seed);
        }
    }

    private void wouldIsAsTheRun(String claim, int order, int seed) {
        int[] got = new int[5];
        for (int what = 0; what <= 4; what++) {
            got[what] = x.would(order, seed, what);
        }
        int sent = x.sent(0);
        String call = claim + ": would(" + order + ", " + seed + ", ";
        due(call + "0)", got[0], x.run(order, seed, 200));
        due(call + "1)", got[1], x.sent(0) - sent);
        due(call + "2)", got[2], x.count(8));
        due(call + "3)", got[3], x.count(6) + x.count(7));
        due(call + "4)", got[4], x.count(2) == 0 ? 1 : 0);
    }

    private void foreseeOfNoLetter() {
        says("a sequence ends earlier if there are no letters");
        make("5r;9r;", 1);
        for (int k = 1; k <= 3; k++) {
            due("foresee(" + k + ", 0) = 0; foresee(" + k + ", 1) = 0; foresee(" + k + ", 2) = 0; foresee(" + k + ", 3) = 1");
        }
        wake(0);
        x.run(0, 1, 200);
        for (int k = 1; k <= 3; k++) {
            due("foresee(" + k + ", 0) = 0; foresee(" + k + ", 1) = 0; foresee(" + k + ", 2) = 1; foresee(" + k + ", 3) = 1");
        }
    }

    private void foreseeEndsEarlier() {
        says("a sequence ends earlier if there are no letters");
        // The crown has two more steps, and is sent once more.
        make("5r;9r;", 1);
        wake(1);
        deliver(2, 0);
        due("foresee(1, 0) = 1; foresee(1, 1) = 1; foresee(1, 2) = 1; foresee(1, 3) = 1");
        for (int k = 2; k <= 3; k++) {
            due("foresee(" + k + ", 0) = 1; foresee(" + k + ", 1) = 1; foresee(" + k + ", 2) = 1; foresee(" + k + ", 3) = 1");
        }
        deliver(2);
        for (int k = 1; k <= 3; k++) {
            due("foresee(" + k + ", 0) = 0; foresee(" + k + ", 1) = 0; foresee(" + k + ", 2) = 1; foresee(" + k + ", 3) = 1");
        }
    }

    /** Least, greatest, those with a head, and all: by delivering and undoing. */
    private void tryAll(int k, int sentBefore, int[] found) {
        List<Integer> busy = busyLinks();
        if (k == 0 || busy.isEmpty()) {
            int sent = x.sent(0) - sentBefore;
            found[0] = found[3] == 0 ? sent : Math.min(found[0], sent);
            found[1] = found[3] == 0 ? sent : Math.max(found[1], sent);
            found[2] += x.count(6) > 0 ? 1 : 0;
            found[3]++;
            return;
        }
        for (int link : busy) {
            x.deliver(link);
            tryAll(k - 1, sentBefore, found);
            x.undo();
        }
    }

    private void foreseenAsTried(String claim) {
        for (int k = 1; k <= 3; k++) {
            int[] found = new int[4];
            tryAll(k, x.sent(0), found);
            for (int what = 0; what <= 3; what++) {
                due(claim + ": foresee(" + k + ", " + what + ")", x.foresee(k, what), found[what]);
            }
        }
    }

    private void foreseeByTrying() {
        says("Considers all sequences of the next k deliveries, each from any link that has letters then");
        for (int way = 1; way <= 4; way++) {
            int all = play(way, 100);
            for (int most = 0; most <= all; most += 2) {
                play(way, most);
                if (busyLinks().size() <= 6) {
                    foreseenAsTried("algorithm " + way + " after " + most);
                }
            }
        }
        // Marks that are drawn again while it is foreseen.
        for (int seed = 1; seed <= 20; seed++) {
            make("5b;4b;9b;", 4, 2, seed);
            wakeAll();
            x.run(0, 1, 4);
            foreseenAsTried("marks by seed " + seed);
        }
    }

    private void sixLinks() {
        says("FULL if more than 6 links have letters now");
        make(textOf(6, 'r'), 1);
        wakeAll();
        due("links with letters", busyLinks().size(), 6);
        due("foresee(1, 3) = 6; foresee(1, 0) = 0; foresee(1, 1) = 1; foresee(1, 2) = 0");
        foreseenAsTried("six links");
        make("1r;2r;3r;", 2);
        wakeAll();
        due("links with letters", busyLinks().size(), 6);
        foreseenAsTried("all links of three contenders");
    }

    private void sevenLinks() {
        says("FULL if more than 6 links have letters now");
        make("4r;2r;3r;1r;", 2);
        wakeAll();
        for (int links = 8; links >= 7; links--) {
            due("links with letters", busyLinks().size(), links);
            for (int k = 1; k <= 3; k++) {
                due("foresee(" + k + ", 0) = FULL; foresee(" + k + ", 1) = FULL; foresee(" + k + ", 2) = FULL; foresee(" + k + ", 3) = FULL");
            }
            deliver(links == 8 ? 0 : 1);
        }
        due("links with letters", busyLinks().size(), 6);
        due("foresee(1, 3) = 6; undo() = 5; foresee(1, 3) = FULL");
    }

    private void moreLettersThanLinks() {
        says("more than 6 links have letters");
        make("4r;2r;3r;1r;", 2);
        wakeAll();
        deliver(0, 1);
        due("count(2) = 8; foresee(1, 3) = 6");
        due("links with letters", busyLinks().size(), 6);
        foreseenAsTried("eight letters on six links");
    }

    private void moreLinksLater() {
        says("FULL if more than 6 links have letters now");
        make("4r;2r;1r;3r;", 2);
        wakeAll();
        deliver(0, 2);
        due("links with letters", busyLinks().size(), 6);
        foreseenAsTried("six links now");
        due("foresee(1, 3) = 6; deliver(5) = 2; foresee(1, 3) = FULL");
        due("links with letters", busyLinks().size(), 7);
        // More sequences than 6 * 6 * 6.
        make("2r;1r;3r;6r;5r;4r;", 2);
        wake(1, 4, 3, 0);
        deliver(9, 6);
        wake(5);
        deliver(7, 10, 4, 8, 3, 9);
        due("links with letters", busyLinks().size(), 6);
        foreseenAsTried("six links now, more later");
        due("foresee(3, 3) = 257");
    }

    private void lastPromisedCall() {
        says("An object is used for at most 512 calls after it has been made");
        // 6 bytes, ring, begin and two wakings are 10 calls; then 501 runs; the last call asks.
        make("5r;9r;", 4);
        wakeAll();
        for (int i = 0; i < 501; i++) {
            due("run(0, 1, 200)", x.run(0, 1, 200), 200);
        }
        due("sent(0) = 100202");
    }
}
