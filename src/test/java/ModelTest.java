import java.util.Random;

/**
 * Makes the same calls on the class and on the model, by fixed seeds: each answer must be the same,
 * and after every call everything that can be asked.
 */
public final class ModelTest {
    private static final int OBJECTS = 3000;
    private static final int CALLS = 400;

    private final Check check;
    private final Random random;
    private final String run;
    private final HeadsOfRings x = new HeadsOfRings();
    private final Model y = new Model();

    private ModelTest(Check check, int seed) {
        this.check = check;
        this.random = new Random(seed);
        this.run = "seed " + seed + ": ";
    }

    public static void main(String[] args) {
        Check check = new Check();
        int most = 0;
        for (int seed = 1; seed <= OBJECTS && check.allRight(); seed++) {
            ModelTest test = new ModelTest(check, seed);
            test.play();
            most = Math.max(most, test.y.mostLetters);
        }
        check.due("the most letters that were under way at once", most, 12);
        fractions(check);
        check.end();
    }

    private static void fractions(Check check) {
        HeadsOfRings x = new HeadsOfRings();
        Model y = new Model();
        for (int m = 0; m <= 6; m++) {
            for (int d = 0; d <= 4; d++) {
                for (int k = -1; k <= 5; k++) {
                    for (int what = -1; what <= 2; what++) {
                        check.due("chance(" + m + ", " + d + ", " + k + ", " + what + ")",
                            x.chance(m, d, k, what), y.chance(m, d, k, what));
                    }
                }
            }
        }
    }

    private void play() {
        if (random.nextInt(10) > 0) {
            goodRing();
            begin();
        }
        for (int call = 0; call < CALLS && check.allRight(); call++) {
            step();
            if (random.nextInt(4) == 0) {
                compareAll();
            }
        }
    }

    private void step() {
        int pick = random.nextInt(100);
        if (pick < 25) {
            int link = near(0, 11);
            same("deliver(" + link + ")", x.deliver(link), y.deliver(link));
        } else if (pick < 40) {
            int who = near(0, 5);
            same("wake(" + who + ")", x.wake(who), y.wake(who));
        } else if (pick < 50) {
            int order = near(0, 3);
            int seed = seed();
            int most = random.nextInt(3) > 0 ? random.nextInt(6) : near(0, 200);
            same("run(" + order + ", " + seed + ", " + most + ")", x.run(order, seed, most), y.run(order, seed, most));
        } else if (pick < 62) {
            same("undo()", x.undo(), y.undo());
        } else if (pick < 70) {
            int order = near(0, 3);
            int seed = seed();
            int what = near(0, 4);
            same("would(" + order + ", " + seed + ", " + what + ")", x.would(order, seed, what), y.would(order, seed, what));
        } else if (pick < 76) {
            int k = near(1, 3);
            int what = near(0, 3);
            same("foresee(" + k + ", " + what + ")", x.foresee(k, what), y.foresee(k, what));
        } else if (pick < 78) {
            begin();
        } else if (pick < 79) {
            begin();
            wakeAll();
        } else if (pick < 80) {
            goodRing();
        } else if (pick < 82) {
            badRing();
        } else if (pick < 83 && random.nextInt(20) == 0) {
            int what = near(0, 3);
            same("sit(" + what + ")", x.sit(what), y.sit(what));
        } else if (pick < 86) {
            int b = near(0, 255);
            same("write(" + b + ")", x.write(b), y.write(b));
        } else if (pick < 87) {
            same("ring()", x.ring(), y.ring());
        } else {
            ask();
        }
    }

    private void wakeAll() {
        for (int who = 0; who < y.count(0); who++) {
            same("wake(" + who + ")", x.wake(who), y.wake(who));
        }
    }

    private void ask() {
        int a = near(0, 11);
        int b = near(0, 7);
        int c = near(0, 10);
        same("contender(" + a + ", " + b + ")", x.contender(a, b), y.contender(a, b));
        same("letter(" + a + ", " + b + ", " + c + ")", x.letter(a, b, c), y.letter(a, b, c));
        same("link(" + a + ")", x.link(a), y.link(a));
        same("sent(" + b + ")", x.sent(b), y.sent(b));
        same("count(" + c + ")", x.count(c), y.count(c));
    }

    private void begin() {
        int way = near(1, 4);
        int d = random.nextBoolean() ? 1 + random.nextInt(3) : near(1, 9);
        int seed = seed();
        same("begin(" + way + ", " + d + ", " + seed + ")", x.begin(way, d, seed), y.begin(way, d, seed));
    }

    private int near(int least, int greatest) {
        int pick = random.nextInt(60);
        if (pick == 0) {
            return least - 1;
        }
        if (pick == 1) {
            return greatest + 1;
        }
        if (pick == 2) {
            return random.nextInt();
        }
        return least + random.nextInt(greatest - least + 1);
    }

    private int seed() {
        return random.nextInt(4) == 0 ? near(1, 999999) : 1 + random.nextInt(999999);
    }

    private void goodRing() {
        int n = 2 + random.nextInt(5);
        int sort = random.nextInt(3);
        StringBuilder text = new StringBuilder();
        boolean[] used = new boolean[100];
        for (int i = 0; i < n; i++) {
            int name = 1 + random.nextInt(99);
            while (used[name]) {
                name = 1 + random.nextInt(99);
            }
            used[name] = true;
            boolean backward = sort == 1 || (sort == 2 && random.nextBoolean());
            text.append(name).append(backward ? "b;" : "r;");
        }
        same("ring()", x.ring(), y.ring());
        writeAll(text.toString());
        same("ring()", x.ring(), y.ring());
    }

    private void badRing() {
        String signs = "0123456789rrrbbb;;;;  x";
        StringBuilder text = new StringBuilder();
        int length = random.nextInt(24);
        for (int i = 0; i < length; i++) {
            int place = i % 3;
            boolean usual = random.nextInt(8) > 0;
            text.append(!usual ? signs.charAt(random.nextInt(signs.length()))
                : place == 0 ? (char) ('1' + random.nextInt(9)) : place == 1 ? 'r' : ';');
        }
        writeAll(text.toString());
        same("ring() of " + text, x.ring(), y.ring());
        same("fault()", x.fault(), y.fault());
    }

    private void writeAll(String text) {
        for (int i = 0; i < text.length(); i++) {
            same("write(" + (int) text.charAt(i) + ")", x.write(text.charAt(i)), y.write(text.charAt(i)));
        }
    }

    private void compareAll() {
        for (int what = 0; what <= 10; what++) {
            same("count(" + what + ")", x.count(what), y.count(what));
        }
        for (int kind = 0; kind <= 7; kind++) {
            same("sent(" + kind + ")", x.sent(kind), y.sent(kind));
        }
        for (int who = 0; who <= 6; who++) {
            for (int what = 0; what <= 6; what++) {
                same("contender(" + who + ", " + what + ")", x.contender(who, what), y.contender(who, what));
            }
        }
        for (int link = 0; link <= 12; link++) {
            same("link(" + link + ")", x.link(link), y.link(link));
            for (int letter = 0; letter <= y.link(link); letter++) {
                for (int what = 0; what <= 4; what++) {
                    same("letter(" + link + ", " + letter + ", " + what + ")",
                        x.letter(link, letter, what), y.letter(link, letter, what));
                }
            }
        }
        same("fault()", x.fault(), y.fault());
    }

    private void same(String call, long got, long want) {
        check.due(run + call, got, want);
    }
}
