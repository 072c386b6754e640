/**
 * A simulator of leader election on a ring of 2 to 6 contenders, by four algorithms. The document
 * numbers what each public method promises; README.md tells how to use the class.
 */
public final class HeadsOfRings {
    public static final int NONE = -1, UNKNOWN = -1000001, OUTSIDE = -1000002, NOT = -1000003, FULL = -1000004;

    private static final int LEAST_CONTENDERS = 2;
    private static final int MOST_CONTENDERS = 6;
    private static final int MOST_BYTES = 40;
    private static final int MOST_UNDONE = 20;
    private static final int MOST_RUN = 200;
    private static final int MOST_WOULD = 300;
    private static final int MOST_SEED = 999999;
    private static final int MOST_FORESEEN = 3;
    private static final int MOST_LINKS_FORESEEN = 6;

    private static final int FACTOR = 16807;
    private static final int MODULUS = 2147483647;

    // The algorithms.
    private static final int NO_WAY = 0;
    private static final int GREATEST_NAME = 1;
    private static final int DOUBLING = 2;
    private static final int PHASES = 3;
    private static final int RANDOM_MARKS = 4;

    // The states of a contender.
    private static final int ASLEEP = 0;
    private static final int RUNNING = 1;
    private static final int OUT = 2;
    private static final int HEAD = 3;
    private static final int INFORMED = 4;

    // The kinds of letters; ALL_KINDS only counts.
    private static final int ALL_KINDS = 0;
    private static final int NAME_LETTER = 1;
    private static final int PROBE = 2;
    private static final int REPLY = 3;
    private static final int FIRST = 4;
    private static final int SECOND = 5;
    private static final int TOKEN = 6;
    private static final int CROWN = 7;

    private final Text text;
    private final Ring present;
    private final Ring draft;
    private final Election now;
    private final Election trial;
    private final History history;
    private final Foresight foresight;

    public HeadsOfRings() {
        text = new Text();
        present = new Ring();
        draft = new Ring();
        now = new Election(present);
        trial = new Election(present);
        history = new History(present);
        foresight = new Foresight(present);
    }

    public int write(int letter) {
        if (!within(letter, 0, 255)) {
            return OUTSIDE;
        }
        return text.append(letter) ? text.length : FULL;
    }

    public int ring() {
        int faulty = text.readInto(draft);
        text.length = 0;
        if (faulty != NONE) {
            return -100 - faulty;
        }
        present.copyFrom(draft);
        now.start(NO_WAY, 1, 1);
        history.forget();
        return present.size;
    }

    public int fault() {
        return text.fault;
    }

    public int begin(int way, int d, int seed) {
        if (!within(way, GREATEST_NAME, RANDOM_MARKS) || !within(d, 1, 9) || !within(seed, 1, MOST_SEED)) {
            return OUTSIDE;
        }
        boolean oneDirection = way == PHASES || way == RANDOM_MARKS;
        if (present.size == 0 || (oneDirection && !present.sensesAgree())) {
            return NOT;
        }
        now.start(way, d, seed);
        history.forget();
        return 1;
    }

    public int wake(int contender) {
        if (!present.hasContender(contender)) {
            return UNKNOWN;
        }
        if (!now.isBegun() || now.cell(contender, Election.STATE) != ASLEEP) {
            return NOT;
        }
        history.keep(now);
        int before = now.sentOf(ALL_KINDS);
        now.rouse(contender);
        return now.sentOf(ALL_KINDS) - before;
    }

    public int deliver(int link) {
        if (!present.hasLink(link)) {
            return UNKNOWN;
        }
        if (!now.isBusy(link)) {
            return NOT;
        }
        history.keep(now);
        return now.deliverFrom(link);
    }

    public int run(int order, int seed, int most) {
        if (!within(order, 0, 3) || !within(seed, 1, MOST_SEED) || !within(most, 0, MOST_RUN)) {
            return OUTSIDE;
        }
        if (!now.isBegun()) {
            return NOT;
        }
        if (most == 0 || now.letterCount == 0) {
            return 0;
        }
        history.keep(now);
        return now.deliverMany(order, seed, most);
    }

    public int undo() {
        if (!history.giveBack(now)) {
            return NOT;
        }
        return history.size;
    }

    public int contender(int contender, int what) {
        if (!present.hasContender(contender)) {
            return UNKNOWN;
        }
        switch (what) {
            case 0:
                return present.nameOf(contender);
            case 1:
                return now.cell(contender, Election.SENSE);
            case 2:
                return now.cell(contender, Election.STATE);
            case 3:
                return now.cell(contender, Election.MARK);
            case 4:
                return now.cell(contender, Election.PHASE);
            case 5:
                return now.cell(contender, Election.KNOWN);
            case 6:
                return now.cell(contender, Election.TALLY);
            default:
                return OUTSIDE;
        }
    }

    public int link(int link) {
        return present.hasLink(link) ? now.lettersOn(link) : UNKNOWN;
    }

    public int letter(int link, int letter, int what) {
        if (!present.hasLink(link)) {
            return UNKNOWN;
        }
        int at = now.placeOf(link, letter);
        if (at == NONE) {
            return UNKNOWN;
        }
        switch (what) {
            case 0:
                return now.letterCell(at, Election.KIND);
            case 1:
                return now.letterCell(at, Election.NUMBER);
            case 2:
                return now.letterCell(at, Election.LETTER_PHASE);
            case 3:
                return now.letterCell(at, Election.STEPS);
            case 4:
                return now.letterCell(at, Election.ALONE);
            default:
                return OUTSIDE;
        }
    }

    public int sent(int kind) {
        return within(kind, ALL_KINDS, CROWN) ? now.sentOf(kind) : OUTSIDE;
    }

    public int would(int order, int seed, int what) {
        if (!within(order, 0, 3) || !within(seed, 1, MOST_SEED) || !within(what, 0, 4)) {
            return OUTSIDE;
        }
        if (!now.isBegun()) {
            return NOT;
        }
        trial.copyFrom(now);
        int delivered = trial.deliverMany(order, seed, MOST_WOULD);
        switch (what) {
            case 0:
                return delivered;
            case 1:
                return trial.sentOf(ALL_KINDS) - now.sentOf(ALL_KINDS);
            case 2:
                return trial.head();
            case 3:
                return trial.inState(HEAD) + trial.inState(INFORMED);
            default:
                return trial.letterCount == 0 ? 1 : 0;
        }
    }

    public int foresee(int k, int what) {
        if (!within(k, 1, MOST_FORESEEN) || !within(what, 0, 3)) {
            return OUTSIDE;
        }
        if (!now.isBegun()) {
            return NOT;
        }
        if (now.busyLinks() > MOST_LINKS_FORESEEN) {
            return FULL;
        }
        foresight.reset(now);
        Foresight.explore(foresight, now, k);
        switch (what) {
            case 0:
                return foresight.leastSent;
            case 1:
                return foresight.greatestSent;
            case 2:
                return foresight.withHead;
            default:
                return foresight.sequences;
        }
    }

    /**
     * The names are all different, so only their order counts: the letter of a name goes as far as
     * the next greater one, the letter of the greatest name all round.
     */
    public int sit(int what) {
        if (!within(what, 0, 3)) {
            return OUTSIDE;
        }
        int n = present.size;
        if (n == 0) {
            return NOT;
        }
        switch (what) {
            case 0:
                // Ascending names: every letter but the greatest one's goes one step.
                return 2 * n - 1;
            case 1:
                // Descending names: the letters go n, n - 1, .. 1 steps.
                return n * (n + 1) / 2;
            case 2:
                return (int) lowest(sixtiethsOfMean(n), 60, true);
            default:
                return (int) lowest(sixtiethsOfMean(n), 60, false);
        }
    }

    public long chance(int m, int d, int k, int what) {
        if (!within(m, 1, 5) || !within(d, 1, 3) || !within(k, 0, 4) || !within(what, 0, 1)) {
            return OUTSIDE;
        }
        return lowest(waysToOne(m, d, k), power(d, 5 * k), what == 0);
    }

    public int count(int what) {
        switch (what) {
            case 0:
                return present.size;
            case 1:
                return now.way;
            case 2:
                return now.letterCount;
            case 3:
                return now.inState(ASLEEP);
            case 4:
                return now.inState(RUNNING);
            case 5:
                return now.inState(OUT);
            case 6:
                return now.inState(HEAD);
            case 7:
                return now.inState(INFORMED);
            case 8:
                return now.head();
            case 9:
                return history.size;
            case 10:
                return text.length;
            default:
                return OUTSIDE;
        }
    }

    private static boolean within(int value, int least, int greatest) {
        return value >= least && value <= greatest;
    }

    /** The next number of the generator that both the draws and the runs of order 3 use. */
    private static int following(int x) {
        return (int) ((long) x * FACTOR % MODULUS);
    }

    /**
     * Among the k greatest of n names the gaps round the ring are n / k in the mean, and this is
     * how far the letter of the k-th one goes. 60 is a multiple of each k up to 6.
     */
    private static long sixtiethsOfMean(int n) {
        long sum = 0;
        for (int k = 1; k <= MOST_CONTENDERS; k++) {
            sum += k <= n ? n * 60 / k : 0;
        }
        return sum;
    }

    /**
     * The probability that one is left, times d^(5 * k): each draw is given the weight d^5, that of
     * five contenders, whatever their number is, so that all summands have one denominator.
     */
    private static long waysToOne(int m, int d, int k) {
        long[] before = {0, 1, 0, 0, 0, 0};
        for (int draw = 1; draw <= k; draw++) {
            long[] after = new long[6];
            for (int drawing = 1; drawing <= 5; drawing++) {
                long sum = 0;
                for (int left = 1; left <= drawing; left++) {
                    sum += waysToLeave(drawing, left, d) * before[left];
                }
                after[drawing] = sum * power(d, 5 - drawing);
            }
            before = after;
        }
        return m >= 1 && m < before.length ? before[m] : 0;
    }

    /** In how many ways just so many of those who draw get the greatest mark of all. */
    private static long waysToLeave(int drawing, int left, int d) {
        long sum = 0;
        for (int greatest = 1; greatest <= d; greatest++) {
            sum += power(greatest - 1, drawing - left);
        }
        return sum * choices(drawing, left);
    }

    private static long choices(int from, int chosen) {
        long product = 1;
        for (int i = 1; i <= chosen; i++) {
            product = product * (from - chosen + i) / i;
        }
        return product;
    }

    private static long power(long base, int exponent) {
        long product = 1;
        for (int i = 0; i < exponent; i++) {
            product *= base;
        }
        return product;
    }

    /** The numerator or the denominator of the fraction in lowest terms. */
    private static long lowest(long numerator, long denominator, boolean wantsNumerator) {
        long divisor = commonDivisor(numerator, denominator);
        long part = wantsNumerator ? numerator : denominator;
        return divisor == 0 ? part : part / divisor;
    }

    private static long commonDivisor(long a, long b) {
        long greater = a;
        long lesser = b;
        // Two steps at least halve the numbers, so 200 are more than any two longs need.
        for (int step = 0; step < 200 && lesser != 0; step++) {
            long rest = greater % lesser;
            greater = lesser;
            lesser = rest;
        }
        return greater;
    }

    /** The contenders as the text told them. */
    private static final class Ring {
        private int size = 0;
        private final int[] names = new int[MOST_CONTENDERS];
        private final int[] senses = new int[MOST_CONTENDERS];

        void copyFrom(Ring other) {
            size = other.size;
            System.arraycopy(other.names, 0, names, 0, MOST_CONTENDERS);
            System.arraycopy(other.senses, 0, senses, 0, MOST_CONTENDERS);
        }

        boolean isFull() {
            return size >= MOST_CONTENDERS;
        }

        void addName(int name) {
            if (size >= 0 && size < MOST_CONTENDERS) {
                names[size] = name;
                size++;
            }
        }

        void setLastSense(int sense) {
            if (size >= 1 && size <= MOST_CONTENDERS) {
                senses[size - 1] = sense;
            }
        }

        boolean hasContender(int who) {
            return within(who, 0, size - 1);
        }

        boolean hasLink(int line) {
            return within(line, 0, 2 * size - 1);
        }

        boolean hasName(int name) {
            for (int i = 0; i < size && i < MOST_CONTENDERS; i++) {
                if (names[i] == name) {
                    return true;
                }
            }
            return false;
        }

        boolean sensesAgree() {
            for (int i = 1; i < size && i < MOST_CONTENDERS; i++) {
                if (senses[i] != senses[0]) {
                    return false;
                }
            }
            return true;
        }

        int nameOf(int who) {
            return within(who, 0, MOST_CONTENDERS - 1) ? names[who] : NONE;
        }

        int senseOf(int who) {
            return within(who, 0, MOST_CONTENDERS - 1) ? senses[who] : 0;
        }

        int receiverOf(int line) {
            int sender = line / 2;
            if (directionOf(line) == 0) {
                return sender + 1 < size ? sender + 1 : 0;
            }
            return sender > 0 ? sender - 1 : size - 1;
        }

        /** 0 forward, 1 backward: the same numbers as the senses. */
        static int directionOf(int line) {
            return line & 1;
        }

        static int lineFrom(int who, int direction) {
            return 2 * who + direction;
        }
    }

    /** The buffer, and its reading token by token. */
    private static final class Text {
        // What must stand next.
        private static final int FIGURES_NEXT = 0;
        private static final int SENSE_NEXT = 1;
        private static final int END_NEXT = 2;

        private final int[] bytes = new int[MOST_BYTES];
        private int length = 0;
        private int fault = 0;
        private int tokenStart = 0;
        private int tokenEnd = 0;

        boolean append(int letter) {
            if (length < 0 || length >= MOST_BYTES) {
                return false;
            }
            bytes[length] = letter;
            length++;
            return true;
        }

        /** Returns the index of the faulty token, or NONE if the whole text is a ring. */
        int readInto(Ring into) {
            into.size = 0;
            tokenEnd = 0;
            int next = FIGURES_NEXT;
            for (int token = 0; token <= MOST_BYTES; token++) {
                findToken();
                boolean complete = next == FIGURES_NEXT && into.size >= LEAST_CONTENDERS;
                if (tokenStart >= length) {
                    fault = complete ? 0 : 1;
                    return complete ? NONE : tokenStart;
                }
                fault = faultOfToken(next, into);
                if (fault != 0) {
                    return tokenStart;
                }
                takeToken(next, into);
                next = next == END_NEXT ? FIGURES_NEXT : next + 1;
            }
            return NONE;
        }

        /** The end of the text is found as an empty token. */
        private void findToken() {
            tokenStart = tokenEnd;
            while (tokenStart < length && byteAt(tokenStart) == ' ') {
                tokenStart++;
            }
            tokenEnd = tokenStart;
            while (tokenEnd < length && isDigit(byteAt(tokenEnd))) {
                tokenEnd++;
            }
            if (tokenEnd == tokenStart && tokenStart < length) {
                tokenEnd++;
            }
        }

        private int faultOfToken(int next, Ring into) {
            int sign = byteAt(tokenStart);
            switch (next) {
                case FIGURES_NEXT:
                    return isDigit(sign) ? faultOfFigures(into) : 1;
                case SENSE_NEXT:
                    return sign == 'r' || sign == 'b' ? 0 : 1;
                default:
                    return sign == ';' ? 0 : 1;
            }
        }

        private int faultOfFigures(Ring into) {
            if (tokenEnd - tokenStart > 2 || tokenValue() == 0 || into.hasName(tokenValue())) {
                return 2;
            }
            return into.isFull() ? 3 : 0;
        }

        private void takeToken(int next, Ring into) {
            if (next == FIGURES_NEXT) {
                into.addName(tokenValue());
            } else if (next == SENSE_NEXT) {
                into.setLastSense(byteAt(tokenStart) == 'b' ? 1 : 0);
            }
        }

        private int tokenValue() {
            int value = 0;
            for (int i = tokenStart; i < tokenEnd; i++) {
                value = value * 10 + byteAt(i) - '0';
            }
            return value;
        }

        private int byteAt(int i) {
            return i >= 0 && i < MOST_BYTES ? bytes[i] : NONE;
        }

        private static boolean isDigit(int sign) {
            return sign >= '0' && sign <= '9';
        }
    }

    /**
     * One algorithm on the ring at one moment. Everything that changes lies in three rows, so that
     * undoing and trying out are copies.
     */
    private static final class Election {
        // The cells of a contender. TALLY: replies (doubling), or 1 if it awaits a second letter.
        static final int STATE = 0;
        static final int SENSE = 1;
        static final int MARK = 2;
        static final int PHASE = 3;
        static final int KNOWN = 4;
        static final int TALLY = 5;
        static final int REMEMBERED = 6;
        static final int DRAWN = 7;
        static final int CELLS = 8;

        // The cells of a letter.
        static final int LINE = 0;
        static final int KIND = 1;
        static final int NUMBER = 2;
        static final int LETTER_PHASE = 3;
        static final int STEPS = 4;
        static final int ALONE = 5;
        static final int LETTER_CELLS = 6;

        // A probe becomes at most one reply, and all other letters at most one letter, so that a
        // contender never has more than the two letters under way that it began with.
        static final int MOST_LETTERS = 2 * MOST_CONTENDERS;

        private final Ring ring;
        private int way = NO_WAY;
        private int greatestMark = 1;
        private final int[] cells = new int[MOST_CONTENDERS * CELLS];
        // The letters of all links in the order of their sending: that of each link is its queue.
        private final int[] letters = new int[MOST_LETTERS * LETTER_CELLS];
        private int letterCount = 0;
        private final int[] sentOfKind = new int[CROWN + 1];
        // The letter that is being delivered.
        private final int[] hand = new int[LETTER_CELLS];

        Election(Ring ring) {
            this.ring = ring;
        }

        void copyFrom(Election other) {
            way = other.way;
            greatestMark = other.greatestMark;
            letterCount = other.letterCount;
            System.arraycopy(other.cells, 0, cells, 0, MOST_CONTENDERS * CELLS);
            System.arraycopy(other.letters, 0, letters, 0, MOST_LETTERS * LETTER_CELLS);
            System.arraycopy(other.sentOfKind, 0, sentOfKind, 0, CROWN + 1);
        }

        void start(int newWay, int d, int seed) {
            way = newWay;
            greatestMark = d;
            letterCount = 0;
            for (int kind = ALL_KINDS; kind <= CROWN; kind++) {
                sentOfKind[kind] = 0;
            }
            for (int who = 0; who < MOST_CONTENDERS; who++) {
                setCell(who, STATE, ASLEEP);
                setCell(who, SENSE, ring.senseOf(who));
                setCell(who, MARK, NONE);
                setCell(who, PHASE, NONE);
                setCell(who, KNOWN, NONE);
                setCell(who, TALLY, 0);
                setCell(who, REMEMBERED, NONE);
                setCell(who, DRAWN, (int) ((long) seed * (who + 1) % MODULUS));
            }
        }

        boolean isBegun() {
            return way != NO_WAY;
        }

        int cell(int who, int which) {
            int at = who * CELLS + which;
            return at >= 0 && at < cells.length ? cells[at] : NONE;
        }

        private void setCell(int who, int which, int value) {
            int at = who * CELLS + which;
            if (at >= 0 && at < cells.length) {
                cells[at] = value;
            }
        }

        int letterCell(int place, int which) {
            int at = place * LETTER_CELLS + which;
            return at >= 0 && at < letters.length ? letters[at] : NONE;
        }

        int sentOf(int kind) {
            return within(kind, ALL_KINDS, CROWN) ? sentOfKind[kind] : 0;
        }

        /** How many contenders are in the state; none before an algorithm is begun. */
        int inState(int state) {
            int found = 0;
            int asked = isBegun() ? ring.size : 0;
            for (int who = 0; who < asked; who++) {
                found += cell(who, STATE) == state ? 1 : 0;
            }
            return found;
        }

        int head() {
            for (int who = 0; who < ring.size; who++) {
                if (cell(who, STATE) == HEAD) {
                    return who;
                }
            }
            return NONE;
        }

        int lettersOn(int line) {
            int found = 0;
            for (int place = 0; place < letterCount; place++) {
                found += letterCell(place, LINE) == line ? 1 : 0;
            }
            return found;
        }

        /** The place of the letter with the index in the queue of the link, or NONE. */
        int placeOf(int line, int index) {
            int before = 0;
            for (int place = 0; place < letterCount; place++) {
                if (letterCell(place, LINE) == line) {
                    if (before == index) {
                        return place;
                    }
                    before++;
                }
            }
            return NONE;
        }

        boolean isBusy(int line) {
            return placeOf(line, 0) != NONE;
        }

        int busyLinks() {
            int found = 0;
            for (int line = 0; line < 2 * ring.size; line++) {
                found += isBusy(line) ? 1 : 0;
            }
            return found;
        }

        int deliverMany(int order, int seed, int most) {
            int line = NONE;
            int y = seed;
            int delivered = 0;
            while (delivered < most && letterCount > 0) {
                y = following(y);
                line = chosenLine(order, line, y);
                deliverFrom(line);
                delivered++;
            }
            return delivered;
        }

        private int chosenLine(int order, int lineBefore, int y) {
            switch (order) {
                case 0:
                    return leastBusyAfter(NONE);
                case 1:
                    return greatestBusy();
                case 2:
                    return nextBusyRound(lineBefore);
                default:
                    return busyByNumber(y);
            }
        }

        private int nextBusyRound(int lineBefore) {
            int next = leastBusyAfter(lineBefore);
            return next != NONE ? next : leastBusyAfter(NONE);
        }

        private int leastBusyAfter(int lineBefore) {
            for (int line = lineBefore + 1; line < 2 * ring.size; line++) {
                if (isBusy(line)) {
                    return line;
                }
            }
            return NONE;
        }

        private int greatestBusy() {
            for (int line = 2 * ring.size - 1; line >= 0; line--) {
                if (isBusy(line)) {
                    return line;
                }
            }
            return NONE;
        }

        private int busyByNumber(int y) {
            int busy = busyLinks();
            int toSkip = busy > 0 ? y % busy : 0;
            for (int line = 0; line < 2 * ring.size; line++) {
                if (isBusy(line)) {
                    if (toSkip == 0) {
                        return line;
                    }
                    toSkip--;
                }
            }
            return NONE;
        }

        void rouse(int who) {
            setCell(who, STATE, RUNNING);
            switch (way) {
                case GREATEST_NAME:
                    sendRight(who, NAME_LETTER, ring.nameOf(who));
                    break;
                case DOUBLING:
                    setCell(who, PHASE, 0);
                    sendProbes(who);
                    break;
                case PHASES:
                    setCell(who, PHASE, 0);
                    setCell(who, MARK, ring.nameOf(who));
                    sendRight(who, FIRST, ring.nameOf(who));
                    break;
                default:
                    setCell(who, PHASE, 1);
                    draw(who);
                    break;
            }
        }

        /** Returns the kind of the letter, or NONE if there was none on the link. */
        int deliverFrom(int line) {
            int place = placeOf(line, 0);
            if (place == NONE) {
                return NONE;
            }
            takeInHand(place);
            int who = ring.receiverOf(line);
            if (cell(who, STATE) == ASLEEP) {
                setCell(who, STATE, OUT);
            }
            if (cell(who, STATE) != HEAD && goesOn(who)) {
                int onward = Ring.lineFrom(who, Ring.directionOf(line));
                send(onward, hand[KIND], hand[NUMBER], hand[LETTER_PHASE], hand[STEPS], hand[ALONE]);
            }
            return hand[KIND];
        }

        private void takeInHand(int place) {
            if (place < 0 || place >= letterCount || letterCount > MOST_LETTERS) {
                return;
            }
            int at = place * LETTER_CELLS;
            System.arraycopy(letters, at, hand, 0, LETTER_CELLS);
            letterCount--;
            System.arraycopy(letters, at + LETTER_CELLS, letters, at, (letterCount - place) * LETTER_CELLS);
        }

        /** Lets the contender handle the letter in hand, and returns whether the letter goes on. */
        private boolean goesOn(int who) {
            switch (hand[KIND]) {
                case NAME_LETTER:
                    return getsPast(who);
                case PROBE:
                    return getsPast(who) && probeGoesOn(who);
                case REPLY:
                    return replyGoesOn(who);
                case FIRST:
                case SECOND:
                    return markGoesOn(who);
                case TOKEN:
                    return tokenGoesOn(who);
                default:
                    return crownGoesOn(who);
            }
        }

        private boolean crownGoesOn(int who) {
            setCell(who, STATE, INFORMED);
            setCell(who, KNOWN, hand[NUMBER]);
            setCell(who, SENSE, Ring.directionOf(hand[LINE]));
            return true;
        }

        /** A name ends at a running contender that has a greater one, or that has sent it. */
        private boolean getsPast(int who) {
            int name = ring.nameOf(who);
            if (!isRunning(who)) {
                return true;
            }
            if (hand[NUMBER] > name) {
                setCell(who, STATE, OUT);
                return true;
            }
            if (hand[NUMBER] == name) {
                becomeHead(who, name);
            }
            return false;
        }

        private boolean probeGoesOn(int who) {
            hand[STEPS]--;
            if (hand[STEPS] >= 1) {
                return true;
            }
            int back = Ring.lineFrom(who, 1 - Ring.directionOf(hand[LINE]));
            send(back, REPLY, hand[NUMBER], hand[LETTER_PHASE], NONE, NONE);
            return false;
        }

        private boolean replyGoesOn(int who) {
            if (hand[NUMBER] != ring.nameOf(who)) {
                return true;
            }
            if (isRunning(who)) {
                setCell(who, TALLY, cell(who, TALLY) + 1);
                if (cell(who, TALLY) == 2) {
                    setCell(who, PHASE, cell(who, PHASE) + 1);
                    sendProbes(who);
                }
            }
            return false;
        }

        /** First and second letters: a running contender lets none of them go on. */
        private boolean markGoesOn(int who) {
            if (!isRunning(who)) {
                return true;
            }
            boolean awaitsSecond = cell(who, TALLY) == 1;
            if (hand[KIND] == FIRST && !awaitsSecond) {
                takeFirst(who);
            } else if (hand[KIND] == SECOND && awaitsSecond) {
                takeSecond(who);
            }
            return false;
        }

        private void takeFirst(int who) {
            int v = hand[NUMBER];
            if (v == cell(who, MARK)) {
                becomeHead(who, v);
            } else {
                setCell(who, REMEMBERED, v);
                setCell(who, TALLY, 1);
                sendRight(who, SECOND, v);
            }
        }

        private void takeSecond(int who) {
            int v = cell(who, REMEMBERED);
            if (v > cell(who, MARK) && v > hand[NUMBER]) {
                setCell(who, MARK, v);
                setCell(who, PHASE, cell(who, PHASE) + 1);
                setCell(who, TALLY, 0);
                sendRight(who, FIRST, v);
            } else {
                setCell(who, STATE, OUT);
            }
        }

        private boolean tokenGoesOn(int who) {
            boolean stays = hand[STEPS] != ring.size;
            if (isRunning(who)) {
                stays = stays ? tokenGetsPast(who) : tokenComesHome(who);
            }
            hand[STEPS]++;
            return stays;
        }

        private boolean tokenComesHome(int who) {
            if (hand[ALONE] == 1) {
                becomeHead(who, hand[NUMBER]);
            } else {
                setCell(who, PHASE, cell(who, PHASE) + 1);
                draw(who);
            }
            return false;
        }

        private boolean tokenGetsPast(int who) {
            int phasesAhead = hand[LETTER_PHASE] - cell(who, PHASE);
            int marksAhead = hand[NUMBER] - cell(who, MARK);
            if (phasesAhead == 0 && marksAhead == 0) {
                hand[ALONE] = 0;
                return true;
            }
            if (phasesAhead > 0 || (phasesAhead == 0 && marksAhead > 0)) {
                setCell(who, STATE, OUT);
                return true;
            }
            return false;
        }

        private boolean isRunning(int who) {
            return cell(who, STATE) == RUNNING;
        }

        private void becomeHead(int who, int v) {
            setCell(who, STATE, HEAD);
            setCell(who, KNOWN, v);
            send(Ring.lineFrom(who, cell(who, SENSE)), CROWN, v, NONE, NONE, NONE);
        }

        private void sendProbes(int who) {
            int phase = cell(who, PHASE);
            int name = ring.nameOf(who);
            setCell(who, TALLY, 0);
            send(Ring.lineFrom(who, 0), PROBE, name, phase, 1 << phase, NONE);
            send(Ring.lineFrom(who, 1), PROBE, name, phase, 1 << phase, NONE);
        }

        private void draw(int who) {
            int x = following(cell(who, DRAWN));
            int mark = greatestMark > 0 ? 1 + x % greatestMark : 1;
            int right = Ring.lineFrom(who, cell(who, SENSE));
            setCell(who, DRAWN, x);
            setCell(who, MARK, mark);
            send(right, TOKEN, mark, cell(who, PHASE), 1, 1);
        }

        /** Sends a letter that has nothing but a number. */
        private void sendRight(int who, int kind, int number) {
            send(Ring.lineFrom(who, cell(who, SENSE)), kind, number, NONE, NONE, NONE);
        }

        private void send(int line, int kind, int number, int phase, int steps, int alone) {
            if (letterCount < 0 || letterCount >= MOST_LETTERS || kind < NAME_LETTER || kind > CROWN) {
                return;
            }
            int at = letterCount * LETTER_CELLS;
            letters[at + LINE] = line;
            letters[at + KIND] = kind;
            letters[at + NUMBER] = number;
            letters[at + LETTER_PHASE] = phase;
            letters[at + STEPS] = steps;
            letters[at + ALONE] = alone;
            letterCount++;
            sentOfKind[kind]++;
            sentOfKind[ALL_KINDS]++;
        }
    }

    /** How the election stood before each of the latest actions. */
    private static final class History {
        // Used as a circle: the oldest one makes room for the newest.
        private final Election[] kept = new Election[MOST_UNDONE];
        private int next = 0;
        private int size = 0;

        History(Ring ring) {
            for (int i = 0; i < MOST_UNDONE; i++) {
                kept[i] = new Election(ring);
            }
        }

        void forget() {
            size = 0;
        }

        void keep(Election election) {
            Election place = keptAt(next);
            if (place == null) {
                return;
            }
            place.copyFrom(election);
            next = next + 1 < MOST_UNDONE ? next + 1 : 0;
            size = size < MOST_UNDONE ? size + 1 : MOST_UNDONE;
        }

        boolean giveBack(Election into) {
            int latest = next > 0 ? next - 1 : MOST_UNDONE - 1;
            Election place = keptAt(latest);
            if (size == 0 || place == null) {
                return false;
            }
            into.copyFrom(place);
            next = latest;
            size--;
            return true;
        }

        private Election keptAt(int i) {
            return i >= 0 && i < MOST_UNDONE ? kept[i] : null;
        }
    }

    /** All sequences of the next deliveries, one after the other. */
    private static final class Foresight {
        private final Election[] trials = new Election[MOST_FORESEEN];
        private int sentBefore = 0;
        private int leastSent = 0;
        private int greatestSent = 0;
        private int withHead = 0;
        private int sequences = 0;

        Foresight(Ring ring) {
            for (int i = 0; i < MOST_FORESEEN; i++) {
                trials[i] = new Election(ring);
            }
        }

        void reset(Election now) {
            sentBefore = now.sentOf(ALL_KINDS);
            leastSent = 0;
            greatestSent = 0;
            withHead = 0;
            sequences = 0;
        }

        /** Calls itself at most MOST_FORESEEN deep: with none left, there is no trial to go on with. */
        private static void explore(Foresight seen, Election from, int left) {
            Election after = left >= 1 && left <= MOST_FORESEEN ? seen.trials[left - 1] : null;
            if (after == null || from.letterCount == 0) {
                seen.note(from);
                return;
            }
            for (int line = 0; line < 2 * MOST_CONTENDERS; line++) {
                if (from.isBusy(line)) {
                    after.copyFrom(from);
                    after.deliverFrom(line);
                    explore(seen, after, left - 1);
                }
            }
        }

        private void note(Election last) {
            int sent = last.sentOf(ALL_KINDS) - sentBefore;
            leastSent = sequences == 0 ? sent : Math.min(leastSent, sent);
            greatestSent = Math.max(greatestSent, sent);
            withHead += last.head() != NONE ? 1 : 0;
            sequences++;
        }
    }
}
