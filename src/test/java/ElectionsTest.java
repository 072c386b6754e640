import java.util.ArrayList;
import java.util.List;
import java.util.Random;

/**
 * What the class is, by whole elections: every arrangement of names on rings of two to five, with
 * every choice of those who are woken, ends with one head that all others know of.
 */
public final class ElectionsTest extends Bench {
    public static void main(String[] args) {
        new ElectionsTest().all();
    }

    private void all() {
        for (int n = 2; n <= 5; n++) {
            List<int[]> arrangements = new ArrayList<>();
            arrange(firstNames(n), 0, arrangements);
            for (int[] names : arrangements) {
                everyWaking(names);
            }
        }
        // Of six only some arrangements, but all choices of those who are woken.
        for (int[] names : new int[][] {{1, 2, 3, 4, 5, 6}, {6, 5, 4, 3, 2, 1}, {3, 6, 1, 5, 2, 4}, {99, 1, 50, 49, 98, 2}}) {
            everyWaking(names);
        }
        anyOrder();
        undoneAndTriedOut();
        average();
        exactProbability();
        check.end();
    }

    private static int[] firstNames(int n) {
        int[] names = new int[n];
        for (int i = 0; i < n; i++) {
            names[i] = i + 1;
        }
        return names;
    }

    private static void arrange(int[] names, int fixed, List<int[]> all) {
        if (fixed == names.length) {
            all.add(names.clone());
        }
        for (int i = fixed; i < names.length; i++) {
            int[] next = names.clone();
            next[fixed] = names[i];
            next[i] = names[fixed];
            arrange(next, fixed + 1, all);
        }
    }

    private static String textFor(int[] names, int senses) {
        StringBuilder text = new StringBuilder();
        for (int i = 0; i < names.length; i++) {
            text.append(names[i]).append((senses >> i & 1) == 0 ? "r;" : "b;");
        }
        return text.toString();
    }

    private void everyWaking(int[] names) {
        says("A simulator of leader election on a ring: 2 to 6 nodes (called contenders) with names and "
            + "possibly different senses of direction exchange messages (letters) over first-in-first-out "
            + "links, by four algorithms: the greatest name travels round, probes over doubled distances, "
            + "phases with temporary marks, and random marks.");
        int all = (1 << names.length) - 1;
        for (int woken = 1; woken <= all; woken++) {
            int order = woken % 4;
            int mixed = woken * 5 & all;
            election(names, mixed, 1, woken, order);
            election(names, mixed, 2, woken, order);
            for (int way = 1; way <= 4; way++) {
                election(names, woken % 2 == 0 ? 0 : all, way, woken, order);
            }
        }
    }

    private void election(int[] names, int senses, int way, int woken, int order) {
        String text = textFor(names, senses);
        make(text, way, 9, 4242 + woken);
        int greatest = wakeThose(names, woken);
        x.run(order, 99, 200);
        x.run(order, 98, 200);
        isDecided(text + " by " + way + ", woken " + woken + ", order " + order + ": ", way, woken, greatest);
    }

    /** Returns the greatest name among those who are woken. */
    private int wakeThose(int[] names, int woken) {
        int greatest = 0;
        for (int who = 0; who < names.length; who++) {
            if ((woken >> who & 1) == 1) {
                x.wake(who);
                greatest = Math.max(greatest, names[who]);
            }
        }
        return greatest;
    }

    private void isDecided(String where, int way, int woken, int greatest) {
        int n = x.count(0);
        int head = x.count(8);
        due(where + "one head", x.count(6), 1);
        due(where + "all others are informed", x.count(7), n - 1);
        due(where + "no letters", x.count(2), 0);
        check.due(where + "the head has been woken", head >= 0 && (woken >> head & 1) == 1);
        int known = x.contender(head, 5);
        int right = x.contender(head, 1);
        for (int who = 0; who < n; who++) {
            due(where + who + " knows the number", x.contender(who, 5), known);
            due(where + who + " has the same right", x.contender(who, 1), right);
        }
        if (way <= 2) {
            due(where + "the greatest name is the head's", x.contender(head, 0), greatest);
        }
        if (way <= 3) {
            due(where + "the greatest name is known", known, greatest);
        } else {
            due(where + "the mark of the head is known", known, x.contender(head, 3));
        }
        due(where + "the crown went round once", x.sent(7), n);
    }

    private void anyOrder() {
        says("Deliveries can be made in any order, undone, and tried out; the class also computes average "
            + "numbers of messages and exact probabilities.");
        Random random = new Random(2);
        int[] names = {3, 6, 1, 5, 2, 4};
        for (int game = 0; game < 400; game++) {
            int way = 1 + game % 4;
            int senses = way <= 2 ? random.nextInt(64) : 63 * random.nextInt(2);
            int woken = 1 + random.nextInt(63);
            String text = textFor(names, senses);
            make(text, way, 9, 1 + game);
            int greatest = wakeThose(names, woken);
            while (x.count(2) > 0) {
                int link = random.nextInt(12);
                int letters = x.link(link);
                due("deliver(" + link + ") is possible if there are letters", x.deliver(link) == NOT ? 0 : 1, letters > 0 ? 1 : 0);
            }
            isDecided(text + " by " + way + ", woken " + woken + ", in any order: ", way, woken, greatest);
        }
    }

    private void undoneAndTriedOut() {
        Random random = new Random(3);
        for (int game = 0; game < 400; game++) {
            int way = 1 + game % 4;
            make(way <= 2 ? "3r;6b;1r;5b;" : "3b;6b;1b;5b;", way, 2, 1 + game);
            wakeAll();
            x.run(3, 1 + game, random.nextInt(12));
            List<Long> before = lookAt(x);
            int link = random.nextInt(8);
            int seed = 1 + random.nextInt(999999);
            int head = x.would(3, seed, 2);
            x.foresee(3, 1);
            check.due("trying out changes nothing", lookAt(x).equals(before));
            if (x.deliver(link) != NOT) {
                x.undo();
            }
            check.due("undone", lookAt(x).equals(before));
            x.run(3, seed, 200);
            x.undo();
            check.due("a run is undone", lookAt(x).equals(before));
            if (x.would(3, seed, 0) <= 200) {
                x.run(3, seed, 200);
                due("the head that was tried out", x.count(8), head);
            }
        }
    }

    private void average() {
        for (int n = 2; n <= 6; n++) {
            List<int[]> arrangements = new ArrayList<>();
            arrange(firstNames(n), 0, arrangements);
            long sum = 0;
            for (int[] names : arrangements) {
                make(textFor(names, 0), 1);
                wakeAll();
                x.run(1, 1, 200);
                sum += x.sent(1);
            }
            due(n + " contenders: the average, crosswise", sum * x.sit(3), (long) x.sit(2) * arrangements.size());
        }
    }

    /** Two draws by three, with three marks each: in how many of the cases one is left. */
    private void exactProbability() {
        long good = 0;
        for (int draws = 0; draws < 27 * 27; draws++) {
            int[] first = {draws % 3, draws / 3 % 3, draws / 9 % 3};
            int[] second = {draws / 27 % 3, draws / 81 % 3, draws / 243};
            boolean[] left = {true, true, true};
            keepGreatest(left, first);
            keepGreatest(left, second);
            good += (left[0] ? 1 : 0) + (left[1] ? 1 : 0) + (left[2] ? 1 : 0) == 1 ? 1 : 0;
        }
        due("two draws by three, crosswise", x.chance(3, 3, 2, 0) * 27 * 27, good * x.chance(3, 3, 2, 1));
    }

    private static void keepGreatest(boolean[] left, int[] marks) {
        int greatest = 0;
        for (int i = 0; i < 3; i++) {
            greatest = left[i] ? Math.max(greatest, marks[i]) : greatest;
        }
        for (int i = 0; i < 3; i++) {
            left[i] = left[i] && marks[i] == greatest;
        }
    }
}
