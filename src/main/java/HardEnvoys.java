/** Two sides of a quarrel over a wood, whom they send, what these settle: see README.md. */
public final class HardEnvoys {
    public static final int NONE = -1, BAD = -2, NO = -3, FULL = -4;

    private static final int NOTHING = -5;
    private static final int BAD_PUT = -1000, BAD_WORTH = -100000, BAD_PART = -1000000;
    private static final int BAD_WHICH = -10, NO_MIDDLE = -20;

    private static final int SIDES = 2, MOST_STEPS = 24, MOST_ENVOYS = 5, MOST_WEIGHT = 9;
    private static final int SLOPE = 0, MARK = 1, BONUS = 2, HATE = 3, WALK = 4;
    private static final int ORDERS = 5, PIECE = 6, PAY = 7, COST = 8, NUMBERS = 9;
    private static final int[] LEAST = {0, 0, 0, 0, -500, 0, 0, 0, 0};
    private static final int[] MOST = {60, 24, 200, 60, 500, 24, 24, 60, 200};

    private static final int PRODUCTS = 0, OFFERS = 1, LOT = 2, RULE = 3;
    private static final int MOST_ROUNDS = 9, MOST_DELAY = 50, MOST_ODDS = 9;
    private static final int MOST_TRIED_PAY = 20, MOST_TRIED_SLOPE = 30;

    private final int[] counts = {1, 1};
    private final Envoy[] envoys = new Envoy[SIDES * MOST_ENVOYS];
    private final Rule rule = new Rule();
    private final Meeting meeting = new Meeting();
    // Rows for all pairs, used again by every call: no call makes an object.
    private final int[][] shares = new int[SIDES][MOST_ENVOYS * MOST_ENVOYS];
    private final long[][] held = new long[SIDES][MOST_ENVOYS * MOST_ENVOYS];
    private int wood = 10;
    private int way = PRODUCTS;
    private int rounds = 2;
    private int delay = 0;
    private int oddsAbove = 1;
    private int oddsBelow = 2;
    private long above = 0;
    private long below = 1;

    public HardEnvoys() {
        for (int at = 0; at < SIDES * MOST_ENVOYS; at++) {
            envoys[at] = new Envoy();
        }
        envoys[0].numbers[SLOPE] = 10;
        envoys[MOST_ENVOYS].numbers[SLOPE] = 10;
    }

    // ---- sides, envoys

    public int steps(int n) {
        if (n < 1 || n > MOST_STEPS) {
            return BAD;
        }
        int before = wood;
        wood = n;
        return before;
    }

    public int envoy(int side) {
        if (!isSide(side)) {
            return BAD;
        }
        if (counts[side] >= MOST_ENVOYS) {
            return FULL;
        }
        int number = counts[side];
        counts[side]++;
        envoyAt(side, number).becomeLike(envoyAt(side, 0));
        return number;
    }

    public int put(int side, int envoy, int what, int v) {
        if (!isEnvoy(side, envoy) || what < 0 || what >= NUMBERS || v < LEAST[what] || v > MOST[what]) {
            return BAD_PUT;
        }
        int[] numbers = envoyAt(side, envoy).numbers;
        int before = numbers[what];
        numbers[what] = v;
        return before;
    }

    public int worth(int side, int envoy, int own) {
        if (!isEnvoy(side, envoy) || own < 0 || own > wood) {
            return BAD_WORTH;
        }
        return envoyAt(side, envoy).worthOf(own, wood);
    }

    public int takes(int side, int envoy, int own) {
        if (!isEnvoy(side, envoy) || own < 0 || own > wood) {
            return BAD;
        }
        Envoy asked = envoyAt(side, envoy);
        return asked.accepts(own, asked.gainBy(own, wood)) ? 1 : 0;
    }

    // ---- ways

    public int set(int what, int v) {
        switch (what) {
            case 0:
                return changeWay(v);
            case 1:
                return changeRounds(v);
            case 2:
                return changeDelay(v);
            default:
                return BAD;
        }
    }

    public int lot(int a, int b) {
        if (b < 1 || b > MOST_ODDS || a < 0 || a > b) {
            return BAD;
        }
        oddsAbove = a;
        oddsBelow = b;
        return 1;
    }

    public int write(int character) {
        if (character < 0 || character > 127) {
            return BAD;
        }
        if (rule.length >= Rule.MOST_CHARACTERS) {
            return FULL;
        }
        rule.append(character);
        return rule.length;
    }

    public int erase() {
        int before = rule.length;
        rule.clear();
        return before;
    }

    public int fault() {
        return rule.flaw;
    }

    public int settle(int i, int j) {
        return isPair(i, j) ? meet(i, j) : BAD;
    }

    public int round(int i, int j) {
        if (!isPair(i, j)) {
            return BAD;
        }
        meet(i, j);
        return meeting.settledIn;
    }

    // ---- who is sent

    public int has(int side, int i, int j) {
        if (!isSide(side) || !isPair(i, j)) {
            return BAD;
        }
        meet(i, j);
        tellFraction(holdsNow(side, side == 0 ? i : j), scale());
        return 1;
    }

    public int best(int side, int j) {
        if (!isSide(side) || !isEnvoy(1 - side, j)) {
            return BAD;
        }
        int sent = 0;
        long most = holdsAgainst(side, 0, j);
        for (int other = 1; other < counts[side]; other++) {
            long now = holdsAgainst(side, other, j);
            if (now > most) {
                most = now;
                sent = other;
            }
        }
        return sent;
    }

    public int rest(int what) {
        if (what < NONE) {
            return BAD_WHICH;
        }
        settleAll();
        holdAll();
        return restAt(what);
    }

    public int lose(int what) {
        if (what != 0 && what != 1) {
            return BAD;
        }
        settleAll();
        holdAll();
        int found = 0;
        for (int i = 0; i < counts[0]; i++) {
            for (int j = 0; j < counts[1]; j++) {
                if (what == 0 ? isLosingRest(i, j) : shares[0][cell(i, j)] == NOTHING) {
                    found++;
                }
            }
        }
        return found;
    }

    public int weight(int side, int envoy, int w) {
        if (!isEnvoy(side, envoy) || w < 0 || w > MOST_WEIGHT) {
            return BAD;
        }
        Envoy guessed = envoyAt(side, envoy);
        int before = guessed.likely;
        guessed.likely = w;
        return before;
    }

    public int thought(int side) {
        if (!isSide(side)) {
            return BAD;
        }
        int weights = sumOfWeights(1 - side);
        if (weights < 1) {
            return NO;
        }
        settleAll();
        holdAll();
        int sent = 0;
        long most = weighed(side, 0);
        for (int other = 1; other < counts[side]; other++) {
            long now = weighed(side, other);
            if (now > most) {
                most = now;
                sent = other;
            }
        }
        tellFraction(most, scale() * weights);
        return sent;
    }

    public int paid(int side, int envoy, int j) {
        if (!isEnvoy(side, envoy) || envoy == 0 || !isEnvoy(1 - side, j)) {
            return BAD;
        }
        int[] numbers = envoyAt(side, envoy).numbers;
        int piece = numbers[PIECE];
        int pay = numbers[PAY];
        int answer = NONE;
        long most = 0;
        for (int triedPiece = 0; triedPiece <= wood; triedPiece++) {
            for (int triedPay = 0; triedPay <= MOST_TRIED_PAY; triedPay++) {
                numbers[PIECE] = triedPiece;
                numbers[PAY] = triedPay;
                long now = holdsAgainst(side, envoy, j);
                if (answer == NONE || now > most) {
                    most = now;
                    answer = 100 * triedPiece + triedPay;
                }
            }
        }
        numbers[PIECE] = piece;
        numbers[PAY] = pay;
        return answer;
    }

    public int hard(int side, int envoy, int j) {
        if (!isEnvoy(side, envoy) || !isEnvoy(1 - side, j)) {
            return BAD;
        }
        int[] numbers = envoyAt(side, envoy).numbers;
        int orders = numbers[ORDERS];
        int answer = NONE;
        for (int tried = wood; tried >= 0 && answer == NONE; tried--) {
            numbers[ORDERS] = tried;
            if (meet(side == 0 ? envoy : j, side == 0 ? j : envoy) != NOTHING) {
                answer = tried;
            }
        }
        numbers[ORDERS] = orders;
        return answer;
    }

    public int committee(int seats, int votes, int j) {
        if (seats < 1 || seats >= 1 << counts[0] || votes < 1 || votes > Integer.bitCount(seats)
                || !isEnvoy(1, j)) {
            return BAD;
        }
        meeting.seat(wood, envoyAt(0, 0), envoyAt(1, j));
        for (int share = 0; share <= wood; share++) {
            boolean otherTakes = envoyAt(1, j).accepts(wood - share, meeting.gains[1][share]);
            meeting.both[share] = otherTakes && votesFor(seats, share) >= votes;
        }
        return conclude();
    }

    public int recall(int side, int i, int j) {
        if (!isSide(side) || !isPair(i, j)) {
            return BAD;
        }
        if (way == LOT || meet(i, j) == NOTHING) {
            return NO;
        }
        Envoy sent = envoyAt(side, side == 0 ? i : j);
        return Math.max(0, holdsUnsettled(side, sent) - holdsBy(side, sent, meeting.share));
    }

    public int middle(int i, int j, int what) {
        if (!isPair(i, j) || what < NONE) {
            return BAD_WHICH;
        }
        if (way == LOT) {
            return NO_MIDDLE;
        }
        meet(i, j);
        long first = holdsNow(0, i);
        long second = holdsNow(1, j);
        int found = 0;
        for (int share = 0; share <= wood; share++) {
            if (meeting.both[share] && holdsBy(0, envoyAt(0, i), share) > first
                    && holdsBy(1, envoyAt(1, j), share) > second) {
                if (found == what) {
                    return share;
                }
                found++;
            }
        }
        return what == NONE ? found : NOTHING;
    }

    public int edge(int side) {
        if (!isSide(side)) {
            return BAD;
        }
        int[] numbers = envoyAt(side, 0).numbers;
        int slope = numbers[SLOPE];
        settleAll();
        holdAll();
        int first = restAt(0);
        int answer = NONE;
        for (int more = 1; more <= MOST_TRIED_SLOPE && answer == NONE; more++) {
            numbers[SLOPE] = slope + more;
            settleItself(side);
            holdAll();
            if (restAt(0) != first) {
                answer = more;
            }
        }
        numbers[SLOPE] = slope;
        return answer;
    }

    public long part(int what) {
        if (what != 0 && what != 1) {
            return BAD_PART;
        }
        return what == 0 ? above : below;
    }

    public int count(int side) {
        return isSide(side) ? counts[side] : BAD;
    }

    public long digest() {
        long h = 463;
        h = 31 * h + wood;
        h = 31 * h + counts[0];
        h = 31 * h + counts[1];
        for (int side = 0; side < SIDES; side++) {
            for (int number = 0; number < counts[side]; number++) {
                h = envoyAt(side, number).mixInto(h);
            }
        }
        h = 31 * h + way;
        h = 31 * h + rounds;
        h = 31 * h + delay;
        h = 31 * h + oddsAbove;
        h = 31 * h + oddsBelow;
        h = rule.mixInto(h);
        h = 31 * h + above;
        return 31 * h + below;
    }

    // ---- what a number must be

    private static boolean isSide(int side) {
        return side == 0 || side == 1;
    }

    private boolean isEnvoy(int side, int envoy) {
        return isSide(side) && envoy >= 0 && envoy < counts[side];
    }

    private boolean isPair(int i, int j) {
        return isEnvoy(0, i) && isEnvoy(1, j);
    }

    private Envoy envoyAt(int side, int envoy) {
        return envoys[side * MOST_ENVOYS + envoy];
    }

    private static int cell(int i, int j) {
        return i * MOST_ENVOYS + j;
    }

    private int changeWay(int v) {
        if (v < PRODUCTS || v > RULE) {
            return BAD;
        }
        int before = way;
        way = v;
        return before;
    }

    private int changeRounds(int v) {
        if (v < 1 || v > MOST_ROUNDS) {
            return BAD;
        }
        int before = rounds;
        rounds = v;
        return before;
    }

    private int changeDelay(int v) {
        if (v < 0 || v > MOST_DELAY) {
            return BAD;
        }
        int before = delay;
        delay = v;
        return before;
    }

    // ---- meeting and settling

    private int meet(int i, int j) {
        meeting.seat(wood, envoyAt(0, i), envoyAt(1, j));
        conclude();
        shares[0][cell(i, j)] = meeting.share;
        shares[1][cell(i, j)] = meeting.otherShare;
        return meeting.share;
    }

    private int conclude() {
        switch (way) {
            case OFFERS:
                meeting.offerInTurns(rounds, delay);
                break;
            case LOT:
                meeting.drawLots();
                break;
            case RULE:
                meeting.follow(rule);
                break;
            default:
                meeting.multiplyGains();
                break;
        }
        return meeting.share;
    }

    private int votesFor(int seats, int own) {
        int votes = 0;
        for (int number = 0; number < counts[0]; number++) {
            Envoy seated = envoyAt(0, number);
            if ((seats >> number & 1) == 1 && seated.accepts(own, seated.gainBy(own, wood))) {
                votes++;
            }
        }
        return votes;
    }

    private void settleAll() {
        for (int i = 0; i < counts[0]; i++) {
            for (int j = 0; j < counts[1]; j++) {
                meet(i, j);
            }
        }
    }

    /** Settles anew only the pairs in which a side goes itself: no other pair asks for its slope. */
    private void settleItself(int side) {
        for (int other = 0; other < counts[1 - side]; other++) {
            meet(side == 0 ? 0 : other, side == 0 ? other : 0);
        }
    }

    // ---- what a side has; by lot it is a fraction, so all is told as so many parts of scale()

    private int scale() {
        return way == LOT ? oddsBelow : 1;
    }

    private int holdsUnsettled(int side, Envoy sent) {
        return envoyAt(side, 0).numbers[WALK] - sent.numbers[COST];
    }

    private int holdsBy(int side, Envoy sent, int share) {
        int own = side == 0 ? share : wood - share;
        return envoyAt(side, 0).worthOf(own, wood) - sent.numbers[COST] - sent.wagesFor(own);
    }

    private long holds(int side, Envoy sent, int share, int otherShare) {
        if (share == NOTHING) {
            return (long) scale() * holdsUnsettled(side, sent);
        }
        if (way != LOT) {
            return holdsBy(side, sent, share);
        }
        long speaking = (long) oddsAbove * holdsBy(side, sent, share);
        return speaking + (long) (oddsBelow - oddsAbove) * holdsBy(side, sent, otherShare);
    }

    private long holdsNow(int side, int sent) {
        return holds(side, envoyAt(side, sent), meeting.share, meeting.otherShare);
    }

    private long holdsAgainst(int side, int own, int other) {
        meet(side == 0 ? own : other, side == 0 ? other : own);
        return holdsNow(side, own);
    }

    private void holdAll() {
        for (int i = 0; i < counts[0]; i++) {
            for (int j = 0; j < counts[1]; j++) {
                int at = cell(i, j);
                held[0][at] = holds(0, envoyAt(0, i), shares[0][at], shares[1][at]);
                held[1][at] = holds(1, envoyAt(1, j), shares[0][at], shares[1][at]);
            }
        }
    }

    private boolean isRest(int i, int j) {
        for (int other = 0; other < counts[0]; other++) {
            if (held[0][cell(other, j)] > held[0][cell(i, j)]) {
                return false;
            }
        }
        for (int other = 0; other < counts[1]; other++) {
            if (held[1][cell(i, other)] > held[1][cell(i, j)]) {
                return false;
            }
        }
        return true;
    }

    private boolean isLosingRest(int i, int j) {
        return isRest(i, j) && held[0][cell(i, j)] < held[0][0] && held[1][cell(i, j)] < held[1][0];
    }

    private int restAt(int what) {
        int found = 0;
        for (int i = 0; i < counts[0]; i++) {
            for (int j = 0; j < counts[1]; j++) {
                if (isRest(i, j)) {
                    if (found == what) {
                        return 10 * i + j;
                    }
                    found++;
                }
            }
        }
        return what == NONE ? found : NOTHING;
    }

    private int sumOfWeights(int side) {
        int sum = 0;
        for (int number = 0; number < counts[side]; number++) {
            sum += envoyAt(side, number).likely;
        }
        return sum;
    }

    private long weighed(int side, int own) {
        long sum = 0;
        for (int other = 0; other < counts[1 - side]; other++) {
            int at = side == 0 ? cell(own, other) : cell(other, own);
            sum += envoyAt(1 - side, other).likely * held[side][at];
        }
        return sum;
    }

    private void tellFraction(long top, long bottom) {
        long divisor = greatestDivisor(Math.abs(top), bottom);
        if (divisor > 0) {
            above = top / divisor;
            below = bottom / divisor;
        }
    }

    private static long greatestDivisor(long one, long other) {
        long a = one;
        long b = other;
        for (int turn = 0; turn < 200 && b != 0; turn++) {
            long left = a % b;
            a = b;
            b = left;
        }
        return a;
    }

    /** One who can be sent. */
    private static final class Envoy {
        final int[] numbers = new int[NUMBERS];
        int likely = 1;

        void becomeLike(Envoy oneself) {
            System.arraycopy(oneself.numbers, 0, numbers, 0, NUMBERS);
            numbers[COST] = 0;
        }

        int worthOf(int own, int wood) {
            int bonus = own >= numbers[MARK] ? numbers[BONUS] : 0;
            return numbers[SLOPE] * own + bonus - numbers[HATE] * (wood - own) + wagesFor(own);
        }

        int wagesFor(int own) {
            return own > numbers[PIECE] ? numbers[PAY] * (own - numbers[PIECE]) : 0;
        }

        int gainBy(int own, int wood) {
            return worthOf(own, wood) - numbers[WALK];
        }

        boolean accepts(int own, int gain) {
            return own >= numbers[ORDERS] && gain >= 0;
        }

        long mixInto(long hash) {
            long h = hash;
            for (int what = 0; what < NUMBERS; what++) {
                h = 31 * h + numbers[what];
            }
            return 31 * h + likely;
        }
    }

    /** Two who meet: what both take, what each gains by every share, and what they settle. */
    private static final class Meeting {
        final boolean[] both = new boolean[MOST_STEPS + 1];
        final int[][] gains = new int[SIDES][MOST_STEPS + 1];
        int steps = 1;
        int firstWalk = 0;
        int secondWalk = 0;
        int share = NOTHING;
        int otherShare = NOTHING;
        int settledIn = NONE;

        void seat(int wood, Envoy first, Envoy second) {
            steps = Math.min(wood, MOST_STEPS);
            firstWalk = first.numbers[WALK];
            secondWalk = second.numbers[WALK];
            for (int x = 0; x <= steps; x++) {
                gains[0][x] = first.gainBy(x, steps);
                gains[1][x] = second.gainBy(steps - x, steps);
                both[x] = first.accepts(x, gains[0][x]) && second.accepts(steps - x, gains[1][x]);
            }
            agree(NOTHING, NOTHING, NONE);
        }

        void agree(int settled, int settledElse, int inRound) {
            share = settled;
            otherShare = settledElse;
            settledIn = inRound;
        }

        void multiplyGains() {
            int settled = NOTHING;
            long most = 0;
            for (int x = 0; x <= steps; x++) {
                long product = (long) gains[0][x] * gains[1][x];
                if (both[x] && (settled == NOTHING || product > most)) {
                    settled = x;
                    most = product;
                }
            }
            agree(settled, settled, NONE);
        }

        void offerInTurns(int rounds, int delay) {
            for (int turn = rounds - 1; turn >= 0; turn--) {
                int offering = turn % 2;
                int offer = mostFor(offering, byGoingOn(1 - offering, turn, delay));
                if (offer != NOTHING && gains[offering][offer] >= byGoingOn(offering, turn, delay)) {
                    agree(offer, offer, turn);
                }
            }
        }

        /** What one gains who goes on behind a round, by what is known of the later ones. */
        int byGoingOn(int side, int turn, int delay) {
            return share == NOTHING ? 0 : gains[side][share] - delay * (settledIn - turn);
        }

        void drawLots() {
            agree(mostFor(0, Integer.MIN_VALUE), mostFor(1, Integer.MIN_VALUE), NONE);
        }

        /** Of shares that both take, and that leave the other one that much, the dearest to a side. */
        int mostFor(int side, int leftToOther) {
            int[] own = gains[side];
            int[] others = gains[1 - side];
            int chosen = NOTHING;
            for (int x = 0; x <= steps; x++) {
                if (both[x] && others[x] >= leftToOther && (chosen == NOTHING || own[x] > own[chosen])) {
                    chosen = x;
                }
            }
            return chosen;
        }

        void follow(Rule rule) {
            int least = NOTHING;
            int most = NOTHING;
            for (int x = 0; x <= steps; x++) {
                if (both[x]) {
                    least = least == NOTHING ? x : least;
                    most = x;
                }
            }
            int settled = least;
            if (least != NOTHING && rule.flaw == NONE) {
                settled = nearest(rule.work(least, most, steps, firstWalk, secondWalk));
            }
            agree(settled, settled, NONE);
        }

        int nearest(long told) {
            // Beyond the wood's ends all distances grow alike; held within, none overflows.
            int near = (int) Math.max(0, Math.min(steps, told));
            int chosen = NOTHING;
            for (int x = 0; x <= steps; x++) {
                if (both[x] && (chosen == NOTHING || Math.abs(x - near) < Math.abs(chosen - near))) {
                    chosen = x;
                }
            }
            return chosen;
        }
    }

    /** A rule's text, its fault, and if it has none the same in the order of working. */
    private static final class Rule {
        static final int MOST_CHARACTERS = 40;

        private static final int MOST_DIGITS = 6, MOST_OPEN = 8, END = -1;
        private static final int STRAY = 1, LONG_NUMBER = 2, DEEP = 3;
        private static final int BOTHS = 0, HELDS = 1, SUMS = 2, TERMS = 3, UNITS = 4, UNIT = 5;
        private static final int NUMBER = 1, LETTER = 2, NEGATIVE = 3;
        private static final String LETTERS = "lunwv";

        int length = 0;
        int flaw = STRAY;
        private final int[] text = new int[MOST_CHARACTERS];
        private final int[] codes = new int[MOST_CHARACTERS];
        private final int[] operands = new int[MOST_CHARACTERS];
        private final long[] stack = new long[MOST_CHARACTERS];
        private final long[] letters = new long[5];
        private int size = 0;
        private int place = 0;

        void append(int character) {
            if (length < MOST_CHARACTERS) {
                text[length] = character;
                length++;
                compile();
            }
        }

        void clear() {
            length = 0;
            compile();
        }

        long mixInto(long hash) {
            long h = 31 * hash + length;
            for (int at = 0; at < length; at++) {
                h = 31 * h + text[at];
            }
            return h;
        }

        private void compile() {
            size = 0;
            place = 0;
            flaw = NONE;
            readLevel(BOTHS, 0);
            if (ahead() != END) {
                spoil(place, STRAY);
            }
        }

        /** The first fault found is the one that is told. */
        private void spoil(int where, int kind) {
            if (flaw == NONE) {
                flaw = 10 * where + kind;
            }
        }

        private void emit(int code, int operand) {
            if (size < MOST_CHARACTERS) {
                codes[size] = code;
                operands[size] = operand;
                size++;
            }
        }

        private int ahead() {
            while (place < length && text[place] == ' ') {
                place++;
            }
            return place < length ? text[place] : END;
        }

        /** Parts of the next finer level with this level's signs between; open: how many ( are. */
        private void readLevel(int level, int open) {
            if (level >= UNIT) {
                readUnit(open);
                return;
            }
            readLevel(level + 1, open);
            int turns = level == SUMS ? 1 : MOST_CHARACTERS;
            for (int turn = 0; turn < turns && flaw == NONE; turn++) {
                int sign = ahead();
                if (!joins(level, sign)) {
                    return;
                }
                place++;
                readLevel(level + 1, open);
                emit(sign, 0);
            }
        }

        private static boolean joins(int level, int sign) {
            switch (level) {
                case BOTHS:
                    return sign == '|';
                case HELDS:
                    return sign == '&';
                case SUMS:
                    return sign == '<' || sign == '>' || sign == '=';
                case TERMS:
                    return sign == '+' || sign == '-';
                default:
                    return level == UNITS && (sign == '*' || sign == '/');
            }
        }

        private void readUnit(int open) {
            int first = place;
            int sign = ahead();
            for (int turn = 0; turn < MOST_CHARACTERS && (sign == '!' || sign == '-'); turn++) {
                place++;
                sign = ahead();
            }
            int behind = place;
            readPlain(sign, open);
            // The sign next to the unit is worked first.
            for (int at = behind - 1; at >= first; at--) {
                if (text[at] == '!') {
                    emit('!', 0);
                } else if (text[at] == '-') {
                    emit(NEGATIVE, 0);
                }
            }
        }

        private void readPlain(int sign, int open) {
            if (isDigit(sign)) {
                readNumber();
            } else if (sign == '(') {
                readGroup(open);
            } else if (sign != END && LETTERS.indexOf((char) sign) >= 0) {
                emit(LETTER, LETTERS.indexOf((char) sign));
                place++;
            } else {
                spoil(place, STRAY);
            }
        }

        private static boolean isDigit(int sign) {
            return sign >= '0' && sign <= '9';
        }

        private void readNumber() {
            int first = place;
            int number = 0;
            for (; place < length && isDigit(text[place]); place++) {
                if (place - first >= MOST_DIGITS) {
                    spoil(first, LONG_NUMBER);
                    return;
                }
                number = 10 * number + text[place] - '0';
            }
            emit(NUMBER, number);
        }

        private void readGroup(int open) {
            if (open >= MOST_OPEN) {
                spoil(place, DEEP);
                return;
            }
            place++;
            readLevel(BOTHS, open + 1);
            if (ahead() != ')') {
                spoil(place, STRAY);
                return;
            }
            place++;
        }

        long work(int least, int most, int steps, int firstWalk, int secondWalk) {
            letters[0] = least;
            letters[1] = most;
            letters[2] = steps;
            letters[3] = firstWalk;
            letters[4] = secondWalk;
            int top = 0;
            for (int at = 0; at < size; at++) {
                int code = codes[at];
                int operand = operands[at];
                if (code == NUMBER || code == LETTER) {
                    if (top < MOST_CHARACTERS) {
                        boolean isLetter = code == LETTER && operand >= 0 && operand < letters.length;
                        stack[top] = isLetter ? letters[operand] : operand;
                        top++;
                    }
                } else if (code == NEGATIVE || code == '!') {
                    if (top >= 1) {
                        stack[top - 1] = code == '!' ? (stack[top - 1] == 0 ? 1 : 0) : -stack[top - 1];
                    }
                } else if (top >= 2) {
                    top--;
                    stack[top - 1] = join(code, stack[top - 1], stack[top]);
                }
            }
            return top > 0 ? stack[0] : 0;
        }

        private static long join(int sign, long left, long right) {
            switch (sign) {
                case '|':
                    return left != 0 || right != 0 ? 1 : 0;
                case '&':
                    return left != 0 && right != 0 ? 1 : 0;
                case '<':
                    return left < right ? 1 : 0;
                case '>':
                    return left > right ? 1 : 0;
                case '=':
                    return left == right ? 1 : 0;
                case '+':
                    return left + right;
                case '-':
                    return left - right;
                case '*':
                    return left * right;
                default:
                    return right == 0 ? 0 : left / right;
            }
        }
    }
}
