import java.math.BigInteger;
import java.util.ArrayDeque;
import java.util.ArrayList;
import java.util.Deque;
import java.util.HashSet;
import java.util.List;
import java.util.Set;

/**
 * A second writing of the document, with lists and maps and without any limit on letters, to
 * compare the class with. It shares no code with the class.
 */
final class Model {
    static final int NONE = -1, UNKNOWN = -1000001, OUTSIDE = -1000002, NOT = -1000003, FULL = -1000004;
    static final long P = 2147483647L;

    record Letter(int kind, int number, int phase, int steps, int alone) {
        Letter steps(int s) {
            return new Letter(kind, number, phase, s, alone);
        }

        Letter alone(int a) {
            return new Letter(kind, number, phase, steps, a);
        }
    }

    static final class Node {
        int name, sense, state, mark = NONE, phase = NONE, knows = NONE, replies, remembered;
        boolean second;
        long x;

        Node copy() {
            Node c = new Node();
            c.name = name;
            c.sense = sense;
            c.state = state;
            c.mark = mark;
            c.phase = phase;
            c.knows = knows;
            c.replies = replies;
            c.remembered = remembered;
            c.second = second;
            c.x = x;
            return c;
        }
    }

    static final class World {
        int way, d;
        List<Node> nodes = new ArrayList<>();
        List<Deque<Letter>> links = new ArrayList<>();
        int[] sent = new int[8];

        World copy() {
            World c = new World();
            c.way = way;
            c.d = d;
            for (Node n : nodes) {
                c.nodes.add(n.copy());
            }
            for (Deque<Letter> q : links) {
                c.links.add(new ArrayDeque<>(q));
            }
            c.sent = sent.clone();
            return c;
        }

        int n() {
            return nodes.size();
        }

        void put(int link, Letter l) {
            links.get(link).addLast(l);
            sent[l.kind()]++;
            sent[0]++;
        }

        void right(int i, Letter l) {
            put(nodes.get(i).sense == 0 ? 2 * i : 2 * i + 1, l);
        }

        void head(int i, int v) {
            Node c = nodes.get(i);
            c.state = 3;
            c.knows = v;
            right(i, new Letter(7, v, NONE, NONE, NONE));
        }

        void probes(int i) {
            Node c = nodes.get(i);
            int steps = 1;
            for (int k = 0; k < c.phase; k++) {
                steps *= 2;
            }
            put(2 * i, new Letter(2, c.name, c.phase, steps, NONE));
            put(2 * i + 1, new Letter(2, c.name, c.phase, steps, NONE));
            c.replies = 0;
        }

        void draw(int i) {
            Node c = nodes.get(i);
            c.x = c.x * 16807 % P;
            c.mark = (int) (1 + c.x % d);
            right(i, new Letter(6, c.mark, c.phase, 1, 1));
        }

        void wake(int i) {
            Node c = nodes.get(i);
            c.state = 1;
            if (way == 1) {
                right(i, new Letter(1, c.name, NONE, NONE, NONE));
            } else if (way == 2) {
                c.phase = 0;
                probes(i);
            } else if (way == 3) {
                c.phase = 0;
                c.mark = c.name;
                right(i, new Letter(4, c.mark, NONE, NONE, NONE));
            } else {
                c.phase = 1;
                draw(i);
            }
        }

        int deliver(int link) {
            Letter l = links.get(link).removeFirst();
            boolean forward = link % 2 == 0;
            int to = Math.floorMod(link / 2 + (forward ? 1 : -1), n());
            int on = forward ? 2 * to : 2 * to + 1;
            int back = forward ? 2 * to + 1 : 2 * to;
            Node c = nodes.get(to);
            if (c.state == 0) {
                c.state = 2;
            }
            if (c.state == 3) {
                return l.kind();
            }
            switch (l.kind()) {
                case 1 -> name(c, to, l, on);
                case 2 -> probe(c, to, l, on, back);
                case 3 -> reply(c, to, l, on);
                case 4, 5 -> mark(c, to, l, on);
                case 6 -> token(c, to, l, on);
                default -> {
                    c.state = 4;
                    c.knows = l.number();
                    c.sense = forward ? 0 : 1;
                    put(on, l);
                }
            }
            return l.kind();
        }

        void name(Node c, int i, Letter l, int on) {
            if (c.state != 1) {
                put(on, l);
                return;
            }
            if (l.number() > c.name) {
                c.state = 2;
                put(on, l);
            } else if (l.number() == c.name) {
                head(i, c.name);
            }
        }

        void probe(Node c, int i, Letter l, int on, int back) {
            if (c.state == 1) {
                if (l.number() < c.name) {
                    return;
                }
                if (l.number() == c.name) {
                    head(i, c.name);
                    return;
                }
                c.state = 2;
            }
            if (l.steps() - 1 >= 1) {
                put(on, l.steps(l.steps() - 1));
            } else {
                put(back, new Letter(3, l.number(), l.phase(), NONE, NONE));
            }
        }

        void reply(Node c, int i, Letter l, int on) {
            if (c.name != l.number()) {
                put(on, l);
                return;
            }
            if (c.state == 1 && ++c.replies == 2) {
                c.phase++;
                probes(i);
            }
        }

        void mark(Node c, int i, Letter l, int on) {
            if (c.state != 1) {
                put(on, l);
            } else if (c.second != (l.kind() == 5)) {
                return;
            } else if (l.kind() == 4 && l.number() == c.mark) {
                head(i, l.number());
            } else if (l.kind() == 4) {
                c.remembered = l.number();
                right(i, new Letter(5, l.number(), NONE, NONE, NONE));
                c.second = true;
            } else if (c.remembered > Math.max(c.mark, l.number())) {
                c.mark = c.remembered;
                c.phase++;
                right(i, new Letter(4, c.mark, NONE, NONE, NONE));
                c.second = false;
            } else {
                c.state = 2;
            }
        }

        void token(Node c, int i, Letter l, int on) {
            boolean home = l.steps() == n();
            if (c.state != 1) {
                if (!home) {
                    put(on, l.steps(l.steps() + 1));
                }
            } else if (home && l.alone() == 1) {
                head(i, l.number());
            } else if (home) {
                c.phase++;
                draw(i);
            } else if (l.phase() == c.phase && l.number() == c.mark) {
                put(on, l.steps(l.steps() + 1).alone(0));
            } else if (l.phase() > c.phase || (l.phase() == c.phase && l.number() > c.mark)) {
                c.state = 2;
                put(on, l.steps(l.steps() + 1));
            }
        }

        List<Integer> busy() {
            List<Integer> b = new ArrayList<>();
            for (int i = 0; i < links.size(); i++) {
                if (!links.get(i).isEmpty()) {
                    b.add(i);
                }
            }
            return b;
        }

        int run(int order, int seed, int most) {
            int last = -1;
            long y = seed;
            for (int done = 0; done < most; done++) {
                List<Integer> b = busy();
                if (b.isEmpty()) {
                    return done;
                }
                y = y * 16807 % P;
                int before = last;
                last = switch (order) {
                    case 0 -> b.get(0);
                    case 1 -> b.get(b.size() - 1);
                    case 2 -> b.stream().filter(l -> l > before).findFirst().orElse(b.get(0));
                    default -> b.get((int) (y % b.size()));
                };
                deliver(last);
            }
            return most;
        }

        int inState(int s) {
            return (int) nodes.stream().filter(c -> c.state == s).count();
        }

        int head() {
            for (int i = 0; i < n(); i++) {
                if (nodes.get(i).state == 3) {
                    return i;
                }
            }
            return NONE;
        }

        int letters() {
            return links.stream().mapToInt(Deque::size).sum();
        }
    }

    private final StringBuilder text = new StringBuilder();
    private int fault = 0;
    private int[] names = new int[0];
    private int[] senses = new int[0];
    private World world = null;
    private final Deque<World> undoable = new ArrayDeque<>();
    /** The most letters that were ever under way at once. */
    int mostLetters = 0;

    int write(int b) {
        if (b < 0 || b > 255) {
            return OUTSIDE;
        }
        if (text.length() == 40) {
            return FULL;
        }
        text.append((char) b);
        return text.length();
    }

    int ring() {
        String t = text.toString();
        text.setLength(0);
        List<Integer> newNames = new ArrayList<>();
        List<Integer> newSenses = new ArrayList<>();
        int place = 0;
        int i = 0;
        while (true) {
            while (i < t.length() && t.charAt(i) == ' ') {
                i++;
            }
            if (i == t.length()) {
                break;
            }
            int j = i;
            while (j < t.length() && t.charAt(j) >= '0' && t.charAt(j) <= '9') {
                j++;
            }
            String token = t.substring(i, Math.max(j, i + 1));
            String sort = j > i ? "figures" : token.equals("r") || token.equals("b") ? "sense" : token.equals(";") ? "end" : "?";
            String needed = List.of("figures", "sense", "end").get(place);
            int f = 0;
            if (!sort.equals(needed)) {
                f = 1;
            } else if (place == 0) {
                BigInteger v = new BigInteger(token);
                if (token.length() > 2 || v.signum() == 0 || newNames.contains(v.intValue())) {
                    f = 2;
                } else if (newNames.size() == 6) {
                    f = 3;
                } else {
                    newNames.add(v.intValue());
                }
            } else if (place == 1) {
                newSenses.add(token.equals("b") ? 1 : 0);
            }
            if (f != 0) {
                fault = f;
                return -100 - i;
            }
            place = (place + 1) % 3;
            i += token.length();
        }
        if (place != 0 || newNames.size() < 2) {
            fault = 1;
            return -100 - t.length();
        }
        fault = 0;
        names = newNames.stream().mapToInt(Integer::intValue).toArray();
        senses = newSenses.stream().mapToInt(Integer::intValue).toArray();
        world = null;
        undoable.clear();
        return names.length;
    }

    int fault() {
        return fault;
    }

    private static boolean in(int v, int a, int b) {
        return a <= v && v <= b;
    }

    static World start(int[] names, int[] senses, int way, int d, int seed) {
        World w = new World();
        w.way = way;
        w.d = d;
        for (int i = 0; i < names.length; i++) {
            Node c = new Node();
            c.name = names[i];
            c.sense = senses[i];
            c.x = (long) seed * (i + 1) % P;
            w.nodes.add(c);
            w.links.add(new ArrayDeque<>());
            w.links.add(new ArrayDeque<>());
        }
        return w;
    }

    int begin(int way, int d, int seed) {
        if (!in(way, 1, 4) || !in(d, 1, 9) || !in(seed, 1, 999999)) {
            return OUTSIDE;
        }
        Set<Integer> different = new HashSet<>();
        for (int s : senses) {
            different.add(s);
        }
        if (names.length == 0 || (way >= 3 && different.size() > 1)) {
            return NOT;
        }
        world = start(names, senses, way, d, seed);
        undoable.clear();
        return 1;
    }

    private void remember() {
        undoable.addLast(world.copy());
        if (undoable.size() > 20) {
            undoable.removeFirst();
        }
    }

    private void measure() {
        mostLetters = Math.max(mostLetters, world.letters());
    }

    int wake(int i) {
        if (!in(i, 0, names.length - 1)) {
            return UNKNOWN;
        }
        if (world == null || world.nodes.get(i).state != 0) {
            return NOT;
        }
        remember();
        int before = world.sent[0];
        world.wake(i);
        measure();
        return world.sent[0] - before;
    }

    int deliver(int link) {
        if (!in(link, 0, 2 * names.length - 1)) {
            return UNKNOWN;
        }
        if (world == null || world.links.get(link).isEmpty()) {
            return NOT;
        }
        remember();
        int kind = world.deliver(link);
        measure();
        return kind;
    }

    int run(int order, int seed, int most) {
        if (!in(order, 0, 3) || !in(seed, 1, 999999) || !in(most, 0, 200)) {
            return OUTSIDE;
        }
        if (world == null) {
            return NOT;
        }
        World before = world.copy();
        int done = world.run(order, seed, most);
        measure();
        if (done > 0) {
            World after = world;
            world = before;
            remember();
            world = after;
        }
        return done;
    }

    int undo() {
        if (undoable.isEmpty()) {
            return NOT;
        }
        world = undoable.removeLast();
        return undoable.size();
    }

    int contender(int i, int what) {
        if (!in(i, 0, names.length - 1)) {
            return UNKNOWN;
        }
        if (!in(what, 0, 6)) {
            return OUTSIDE;
        }
        if (what == 0) {
            return names[i];
        }
        if (world == null) {
            return List.of(0, senses[i], 0, NONE, NONE, NONE, 0).get(what);
        }
        Node c = world.nodes.get(i);
        int tally = world.way == 2 ? c.replies : world.way == 3 && c.second ? 1 : 0;
        return List.of(0, c.sense, c.state, c.mark, c.phase, c.knows, tally).get(what);
    }

    int link(int link) {
        if (!in(link, 0, 2 * names.length - 1)) {
            return UNKNOWN;
        }
        return world == null ? 0 : world.links.get(link).size();
    }

    int letter(int link, int letter, int what) {
        if (!in(link, 0, 2 * names.length - 1) || world == null || !in(letter, 0, world.links.get(link).size() - 1)) {
            return UNKNOWN;
        }
        if (!in(what, 0, 4)) {
            return OUTSIDE;
        }
        Letter l = new ArrayList<>(world.links.get(link)).get(letter);
        return List.of(l.kind(), l.number(), l.phase(), l.steps(), l.alone()).get(what);
    }

    int sent(int kind) {
        if (!in(kind, 0, 7)) {
            return OUTSIDE;
        }
        return world == null ? 0 : world.sent[kind];
    }

    int would(int order, int seed, int what) {
        if (!in(order, 0, 3) || !in(seed, 1, 999999) || !in(what, 0, 4)) {
            return OUTSIDE;
        }
        if (world == null) {
            return NOT;
        }
        World w = world.copy();
        int done = w.run(order, seed, 300);
        return List.of(done, w.sent[0] - world.sent[0], w.head(), w.inState(3) + w.inState(4), w.letters() == 0 ? 1 : 0).get(what);
    }

    private void ends(World w, int k, List<World> all) {
        if (k == 0 || w.busy().isEmpty()) {
            all.add(w);
            return;
        }
        for (int link : w.busy()) {
            World next = w.copy();
            next.deliver(link);
            ends(next, k - 1, all);
        }
    }

    int foresee(int k, int what) {
        if (!in(k, 1, 3) || !in(what, 0, 3)) {
            return OUTSIDE;
        }
        if (world == null) {
            return NOT;
        }
        if (world.busy().size() > 6) {
            return FULL;
        }
        List<World> all = new ArrayList<>();
        ends(world, k, all);
        int[] more = all.stream().mapToInt(w -> w.sent[0] - world.sent[0]).sorted().toArray();
        int heads = (int) all.stream().filter(w -> w.head() != NONE).count();
        return List.of(more[0], more[more.length - 1], heads, more.length).get(what);
    }

    private static void arrangements(int[] from, int fixed, List<int[]> all) {
        if (fixed == from.length) {
            all.add(from.clone());
        }
        for (int i = fixed; i < from.length; i++) {
            int[] next = from.clone();
            next[fixed] = from[i];
            next[i] = from[fixed];
            arrangements(next, fixed + 1, all);
        }
    }

    int sit(int what) {
        if (!in(what, 0, 3)) {
            return OUTSIDE;
        }
        if (names.length == 0) {
            return NOT;
        }
        List<int[]> all = new ArrayList<>();
        arrangements(names, 0, all);
        int least = Integer.MAX_VALUE;
        int greatest = 0;
        long sum = 0;
        for (int[] arranged : all) {
            World w = start(arranged, new int[arranged.length], 1, 1, 1);
            for (int i = 0; i < arranged.length; i++) {
                w.wake(i);
            }
            w.run(3, 7, 1000);
            least = Math.min(least, w.sent[1]);
            greatest = Math.max(greatest, w.sent[1]);
            sum += w.sent[1];
        }
        long g = BigInteger.valueOf(sum).gcd(BigInteger.valueOf(all.size())).longValue();
        return List.of(least, greatest, (int) (sum / g), (int) (all.size() / g)).get(what);
    }

    /** By all marks that m contenders can draw, one after the other: numerator and denominator. */
    private static BigInteger[] left(int m, int d, int k) {
        if (m == 1) {
            return new BigInteger[] {BigInteger.ONE, BigInteger.ONE};
        }
        if (k == 0) {
            return new BigInteger[] {BigInteger.ZERO, BigInteger.ONE};
        }
        int cases = (int) Math.round(Math.pow(d, m));
        BigInteger over = BigInteger.valueOf(cases);
        BigInteger num = BigInteger.ZERO;
        BigInteger den = BigInteger.ONE;
        int[] byLeft = new int[m + 1];
        for (int c = 0; c < cases; c++) {
            int best = -1;
            int many = 0;
            int rest = c;
            for (int i = 0; i < m; i++) {
                int mark = rest % d;
                rest /= d;
                many = mark > best ? 1 : mark == best ? many + 1 : many;
                best = Math.max(best, mark);
            }
            byLeft[many]++;
        }
        for (int many = 1; many <= m; many++) {
            BigInteger[] then = left(many, d, k - 1);
            BigInteger a = then[0].multiply(BigInteger.valueOf(byLeft[many]));
            BigInteger b = then[1].multiply(over);
            num = num.multiply(b).add(a.multiply(den));
            den = den.multiply(b);
            BigInteger g = num.gcd(den);
            num = num.divide(g);
            den = den.divide(g);
        }
        return new BigInteger[] {num, den};
    }

    long chance(int m, int d, int k, int what) {
        if (!in(m, 1, 5) || !in(d, 1, 3) || !in(k, 0, 4) || !in(what, 0, 1)) {
            return OUTSIDE;
        }
        return left(m, d, k)[what].longValueExact();
    }

    int count(int what) {
        if (!in(what, 0, 10)) {
            return OUTSIDE;
        }
        if (what == 0) {
            return names.length;
        }
        if (what == 10) {
            return text.length();
        }
        if (world == null) {
            return what == 8 ? NONE : 0;
        }
        return switch (what) {
            case 1 -> world.way;
            case 2 -> world.letters();
            case 8 -> world.head();
            case 9 -> undoable.size();
            default -> world.inState(what - 3);
        };
    }
}
