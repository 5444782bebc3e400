import java.math.BigInteger;
import java.util.ArrayList;
import java.util.List;

/**
 * The document a second time, written another way than the program: whole fractions, games told by
 * recursion, a rule judged by two states and worked by cutting it at its last loosest sign.
 */
final class Oracle {
    private static final int[] LEAST = {0, 0, 0, 0, -500, 0, 0, 0, 0};
    private static final int[] MOST = {60, 24, 200, 60, 500, 24, 24, 60, 200};
    private static final int NOTHING = -5;

    /** A fraction in lowest terms. */
    record Frac(BigInteger above, BigInteger below) implements Comparable<Frac> {
        static Frac of(long above, long below) {
            BigInteger a = BigInteger.valueOf(above);
            BigInteger b = BigInteger.valueOf(below);
            BigInteger g = a.gcd(b);
            return new Frac(a.divide(g), b.divide(g));
        }

        Frac plus(Frac o) {
            BigInteger a = above.multiply(o.below).add(o.above.multiply(below));
            BigInteger b = below.multiply(o.below);
            BigInteger g = a.gcd(b);
            return new Frac(a.divide(g), b.divide(g));
        }

        Frac times(long above, long below) {
            Frac o = of(above, below);
            BigInteger a = this.above.multiply(o.above);
            BigInteger b = this.below.multiply(o.below);
            BigInteger g = a.gcd(b);
            return new Frac(a.divide(g), b.divide(g));
        }

        @Override
        public int compareTo(Frac o) {
            return above.multiply(o.below).compareTo(o.above.multiply(below));
        }
    }

    /** One at the table: whose gains and walk count, and who says what is taken. */
    record Seat(int side, int[] who, List<int[]> voters, int votes) {
    }

    /** A share and the round, and what both gain by it. */
    record Outcome(int share, int round, long first, long second) {
    }

    int n = 10;
    final List<List<int[]>> envoys = new ArrayList<>();
    int way = 0;
    int rounds = 2;
    int delay = 0;
    int a = 1;
    int b = 2;
    String text = "";
    Frac fraction = Frac.of(0, 1);

    Oracle() {
        for (int side = 0; side < 2; side++) {
            List<int[]> list = new ArrayList<>();
            list.add(new int[] {10, 0, 0, 0, 0, 0, 0, 0, 0, 1});
            envoys.add(list);
        }
    }

    long call(String name, int... v) {
        switch (name) {
            case "steps": return steps(v[0]);
            case "envoy": return envoy(v[0]);
            case "put": return put(v[0], v[1], v[2], v[3]);
            case "worth": return there(v[0], v[1]) && in(v[2], 0, n) ? value(who(v[0], v[1]), v[2]) : -100000;
            case "takes": return there(v[0], v[1]) && in(v[2], 0, n) ? (taken(who(v[0], v[1]), v[2]) ? 1 : 0) : -2;
            case "set": return set(v[0], v[1]);
            case "lot": return lot(v[0], v[1]);
            case "write": return write(v[0]);
            case "erase": return erase();
            case "fault": return fault(text);
            case "settle": return pair(v[0], v[1]) ? meet(v[0], v[1]).share() : -2;
            case "round": return pair(v[0], v[1]) ? meet(v[0], v[1]).round() : -2;
            case "has": return has(v[0], v[1], v[2]);
            case "best": return best(v[0], v[1]);
            case "rest": return rest(v[0]);
            case "lose": return lose(v[0]);
            case "weight": return weight(v[0], v[1], v[2]);
            case "thought": return thought(v[0]);
            case "paid": return paid(v[0], v[1], v[2]);
            case "hard": return hard(v[0], v[1], v[2]);
            case "committee": return committee(v[0], v[1], v[2]);
            case "recall": return recall(v[0], v[1], v[2]);
            case "middle": return middle(v[0], v[1], v[2]);
            case "edge": return edge(v[0]);
            case "part": return part(v[0]);
            case "count": return in(v[0], 0, 1) ? envoys.get(v[0]).size() : -2;
            case "digest": return digest();
            default: throw new IllegalArgumentException(name);
        }
    }

    private static boolean in(long v, long least, long most) {
        return v >= least && v <= most;
    }

    private boolean there(int side, int envoy) {
        return in(side, 0, 1) && in(envoy, 0, envoys.get(side).size() - 1);
    }

    private boolean pair(int i, int j) {
        return there(0, i) && there(1, j);
    }

    private int[] who(int side, int envoy) {
        return envoys.get(side).get(envoy);
    }

    private int steps(int v) {
        if (!in(v, 1, 24)) {
            return -2;
        }
        int old = n;
        n = v;
        return old;
    }

    private int envoy(int side) {
        if (!in(side, 0, 1)) {
            return -2;
        }
        if (envoys.get(side).size() == 5) {
            return -4;
        }
        int[] more = who(side, 0).clone();
        more[8] = 0;
        more[9] = 1;
        envoys.get(side).add(more);
        return envoys.get(side).size() - 1;
    }

    private int put(int side, int envoy, int what, int v) {
        if (!there(side, envoy) || !in(what, 0, 8) || !in(v, LEAST[what], MOST[what])) {
            return -1000;
        }
        int old = who(side, envoy)[what];
        who(side, envoy)[what] = v;
        return old;
    }

    private int set(int what, int v) {
        int old;
        if (what == 0 && in(v, 0, 3)) {
            old = way;
            way = v;
        } else if (what == 1 && in(v, 1, 9)) {
            old = rounds;
            rounds = v;
        } else if (what == 2 && in(v, 0, 50)) {
            old = delay;
            delay = v;
        } else {
            old = -2;
        }
        return old;
    }

    private int lot(int above, int below) {
        if (!in(below, 1, 9) || !in(above, 0, below)) {
            return -2;
        }
        a = above;
        b = below;
        return 1;
    }

    private int write(int character) {
        if (!in(character, 0, 127)) {
            return -2;
        }
        if (text.length() == 40) {
            return -4;
        }
        text += (char) character;
        return text.length();
    }

    private int erase() {
        int old = text.length();
        text = "";
        return old;
    }

    // ---- worth

    private static long wages(int[] e, int own) {
        long sum = 0;
        for (int step = 1; step <= own; step++) {
            if (step > e[6]) {
                sum += e[7];
            }
        }
        return sum;
    }

    private long value(int[] e, int own) {
        long sum = wages(e, own);
        for (int step = 1; step <= n; step++) {
            sum += step <= own ? e[0] : -e[3];
        }
        return own < e[1] ? sum : sum + e[2];
    }

    private boolean taken(int[] e, int own) {
        return !(own < e[5] || value(e, own) < e[4]);
    }

    // ---- settling

    private int own(int side, int share) {
        return side == 0 ? share : n - share;
    }

    private long gain(Seat seat, int share) {
        return value(seat.who(), own(seat.side(), share)) - seat.who()[4];
    }

    private boolean agreed(Seat seat, int share) {
        int votes = 0;
        for (int[] voter : seat.voters()) {
            votes += taken(voter, own(seat.side(), share)) ? 1 : 0;
        }
        return votes >= seat.votes();
    }

    private List<Integer> common(Seat p, Seat q) {
        List<Integer> list = new ArrayList<>();
        for (int x = 0; x <= n; x++) {
            if (agreed(p, x) && agreed(q, x)) {
                list.add(x);
            }
        }
        return list;
    }

    private Seat seat(int side, int envoy) {
        return new Seat(side, who(side, envoy), List.of(who(side, envoy)), 1);
    }

    private Outcome meet(int i, int j) {
        return bargain(seat(0, i), seat(1, j));
    }

    private Outcome bargain(Seat p, Seat q) {
        List<Integer> list = common(p, q);
        if (list.isEmpty()) {
            return new Outcome(NOTHING, -1, 0, 0);
        }
        if (way == 1) {
            return from(0, p, q, list);
        }
        int share = list.get(0);
        if (way == 0) {
            for (int x : list) {
                if (gain(p, x) * gain(q, x) > gain(p, share) * gain(q, share)) {
                    share = x;
                }
            }
        } else if (way == 2) {
            share = dearest(p, list);
        } else if (fault(text) == -1) {
            BigInteger told = BigInteger.valueOf(work(text, list, p.who()[4], q.who()[4]));
            for (int x : list) {
                BigInteger far = BigInteger.valueOf(x).subtract(told).abs();
                if (far.compareTo(BigInteger.valueOf(share).subtract(told).abs()) < 0) {
                    share = x;
                }
            }
        }
        return new Outcome(share, -1, gain(p, share), gain(q, share));
    }

    private int dearest(Seat seat, List<Integer> list) {
        int share = list.get(0);
        for (int x : list) {
            if (gain(seat, x) > gain(seat, share)) {
                share = x;
            }
        }
        return share;
    }

    /** What comes of it from a round on; the gains are what they are worth in that round. */
    private Outcome from(int round, Seat p, Seat q, List<Integer> list) {
        if (round == rounds) {
            return new Outcome(NOTHING, -1, 0, 0);
        }
        Outcome later = from(round + 1, p, q, list);
        long wait = later.share() == NOTHING ? 0 : delay;
        long first = later.first() - wait;
        long second = later.second() - wait;
        boolean zero = round % 2 == 0;
        List<Integer> left = new ArrayList<>();
        for (int x : list) {
            if (zero ? gain(q, x) >= second : gain(p, x) >= first) {
                left.add(x);
            }
        }
        if (!left.isEmpty()) {
            int x = dearest(zero ? p : q, left);
            if (zero ? gain(p, x) >= first : gain(q, x) >= second) {
                return new Outcome(x, round, gain(p, x), gain(q, x));
            }
        }
        return new Outcome(later.share(), later.round(), first, second);
    }

    // ---- the rule

    /** Two states, a unit is wanted or one was had; for each ( open whether it compared already. */
    static int fault(String text) {
        boolean want = true;
        List<Boolean> compared = new ArrayList<>();
        compared.add(false);
        for (int at = 0; at < text.length(); at++) {
            char c = text.charAt(at);
            int top = compared.size() - 1;
            if (c == ' ' || want && (c == '!' || c == '-')) {
                continue;
            }
            if (want && c >= '0' && c <= '9') {
                int end = at;
                while (end < text.length() && text.charAt(end) >= '0' && text.charAt(end) <= '9') {
                    end++;
                }
                if (end - at > 6) {
                    return 10 * at + 2;
                }
                at = end - 1;
                want = false;
            } else if (want && "lunwv".indexOf(c) >= 0) {
                want = false;
            } else if (want && c == '(') {
                if (compared.size() == 9) {
                    return 10 * at + 3;
                }
                compared.add(false);
            } else if (!want && c == ')' && top > 0) {
                compared.remove(top);
            } else if (!want && "+-*/".indexOf(c) >= 0) {
                want = true;
            } else if (!want && "&|".indexOf(c) >= 0) {
                want = true;
                compared.set(top, false);
            } else if (!want && "<>=".indexOf(c) >= 0 && !compared.get(top)) {
                want = true;
                compared.set(top, true);
            } else {
                return 10 * at + 1;
            }
        }
        return want || compared.size() > 1 ? 10 * text.length() + 1 : -1;
    }

    private long work(String part, List<Integer> list, int w, int v) {
        String s = part.trim();
        for (String signs : new String[] {"|", "&", "<>=", "+-", "*/"}) {
            int at = lastSign(s, signs);
            if (at >= 0) {
                long left = work(s.substring(0, at), list, w, v);
                long right = work(s.substring(at + 1), list, w, v);
                return joined(s.charAt(at), left, right);
            }
        }
        char c = s.charAt(0);
        switch (c) {
            case '!': return work(s.substring(1), list, w, v) == 0 ? 1 : 0;
            case '-': return BigInteger.valueOf(work(s.substring(1), list, w, v)).negate().longValue();
            case '(': return work(s.substring(1, s.length() - 1), list, w, v);
            case 'l': return list.get(0);
            case 'u': return list.get(list.size() - 1);
            case 'n': return n;
            case 'w': return w;
            case 'v': return v;
            default: return Long.parseLong(s);
        }
    }

    /** The last of these signs that stands behind a unit and in no ( ); -1: none. */
    private static int lastSign(String s, String signs) {
        int open = 0;
        int last = -1;
        boolean had = false;
        for (int at = 0; at < s.length(); at++) {
            char c = s.charAt(at);
            if (c == ' ') {
                continue;
            }
            if (open == 0 && had && signs.indexOf(c) >= 0) {
                last = at;
            }
            open += c == '(' ? 1 : c == ')' ? -1 : 0;
            had = c == ')' || Character.isLetterOrDigit(c);
        }
        return last;
    }

    private static long joined(char sign, long left, long right) {
        BigInteger p = BigInteger.valueOf(left);
        BigInteger q = BigInteger.valueOf(right);
        switch (sign) {
            case '|': return left != 0 ? 1 : right != 0 ? 1 : 0;
            case '&': return left == 0 ? 0 : right == 0 ? 0 : 1;
            case '<': return p.compareTo(q) < 0 ? 1 : 0;
            case '>': return p.compareTo(q) > 0 ? 1 : 0;
            case '=': return p.equals(q) ? 1 : 0;
            case '+': return p.add(q).longValue();
            case '-': return p.subtract(q).longValue();
            case '*': return p.multiply(q).longValue();
            default: return q.signum() == 0 ? 0 : p.divide(q).longValue();
        }
    }

    // ---- who is sent

    private long unsettled(int side, int[] sent) {
        return who(side, 0)[4] - sent[8];
    }

    private long bySide(int side, int[] sent, int share) {
        int own = own(side, share);
        return value(who(side, 0), own) - sent[8] - wages(sent, own);
    }

    private Frac holding(int side, int i, int j) {
        int[] sent = side == 0 ? who(0, i) : who(1, j);
        Outcome o = meet(i, j);
        if (o.share() == NOTHING) {
            return Frac.of(unsettled(side, sent), 1);
        }
        if (way != 2) {
            return Frac.of(bySide(side, sent, o.share()), 1);
        }
        int other = dearest(seat(1, j), common(seat(0, i), seat(1, j)));
        Frac mine = Frac.of(bySide(side, sent, o.share()), 1).times(a, b);
        return mine.plus(Frac.of(bySide(side, sent, other), 1).times(b - a, b));
    }

    private Frac against(int side, int own, int other) {
        return side == 0 ? holding(0, own, other) : holding(1, other, own);
    }

    private int has(int side, int i, int j) {
        if (!in(side, 0, 1) || !pair(i, j)) {
            return -2;
        }
        fraction = holding(side, i, j);
        return 1;
    }

    private int best(int side, int j) {
        if (!in(side, 0, 1) || !there(1 - side, j)) {
            return -2;
        }
        int sent = 0;
        for (int own = 0; own < envoys.get(side).size(); own++) {
            if (against(side, own, j).compareTo(against(side, sent, j)) > 0) {
                sent = own;
            }
        }
        return sent;
    }

    private List<Integer> rests() {
        List<Integer> list = new ArrayList<>();
        for (int i = 0; i < envoys.get(0).size(); i++) {
            for (int j = 0; j < envoys.get(1).size(); j++) {
                boolean first = holding(0, i, j).compareTo(holding(0, best(0, j), j)) == 0;
                if (first && holding(1, i, j).compareTo(holding(1, i, best(1, i))) == 0) {
                    list.add(10 * i + j);
                }
            }
        }
        return list;
    }

    private static int pick(List<Integer> list, int what) {
        return what == -1 ? list.size() : what < list.size() ? list.get(what) : -5;
    }

    private int rest(int what) {
        return what < -1 ? -10 : pick(rests(), what);
    }

    private int lose(int what) {
        int found = 0;
        if (what == 0) {
            for (int both : rests()) {
                boolean first = holding(0, both / 10, both % 10).compareTo(holding(0, 0, 0)) < 0;
                boolean second = holding(1, both / 10, both % 10).compareTo(holding(1, 0, 0)) < 0;
                found += first && second ? 1 : 0;
            }
            return found;
        }
        for (int i = 0; i < envoys.get(0).size() && what == 1; i++) {
            for (int j = 0; j < envoys.get(1).size(); j++) {
                found += meet(i, j).share() == NOTHING ? 1 : 0;
            }
        }
        return what == 1 ? found : -2;
    }

    private int weight(int side, int envoy, int w) {
        if (!there(side, envoy) || !in(w, 0, 9)) {
            return -2;
        }
        int old = who(side, envoy)[9];
        who(side, envoy)[9] = w;
        return old;
    }

    private int thought(int side) {
        if (!in(side, 0, 1)) {
            return -2;
        }
        int sum = 0;
        for (int[] e : envoys.get(1 - side)) {
            sum += e[9];
        }
        if (sum == 0) {
            return -3;
        }
        int sent = -1;
        Frac most = null;
        for (int own = 0; own < envoys.get(side).size(); own++) {
            Frac mean = Frac.of(0, 1);
            for (int other = 0; other < envoys.get(1 - side).size(); other++) {
                mean = mean.plus(against(side, own, other).times(who(1 - side, other)[9], sum));
            }
            if (most == null || mean.compareTo(most) > 0) {
                most = mean;
                sent = own;
            }
        }
        fraction = most;
        return sent;
    }

    private int paid(int side, int envoy, int j) {
        if (!there(side, envoy) || envoy == 0 || !there(1 - side, j)) {
            return -2;
        }
        int[] old = who(side, envoy);
        Frac most = null;
        int answer = -1;
        for (int piece = 0; piece <= n; piece++) {
            for (int pay = 0; pay <= 20; pay++) {
                int[] other = old.clone();
                other[6] = piece;
                other[7] = pay;
                envoys.get(side).set(envoy, other);
                Frac now = against(side, envoy, j);
                if (most == null || now.compareTo(most) > 0) {
                    most = now;
                    answer = 100 * piece + pay;
                }
            }
        }
        envoys.get(side).set(envoy, old);
        return answer;
    }

    private int hard(int side, int envoy, int j) {
        if (!there(side, envoy) || !there(1 - side, j)) {
            return -2;
        }
        int[] old = who(side, envoy);
        int answer = -1;
        for (int orders = 0; orders <= n; orders++) {
            int[] other = old.clone();
            other[5] = orders;
            envoys.get(side).set(envoy, other);
            Outcome o = side == 0 ? meet(envoy, j) : meet(j, envoy);
            answer = o.share() == NOTHING ? answer : orders;
        }
        envoys.get(side).set(envoy, old);
        return answer;
    }

    private int committee(int seats, int votes, int j) {
        List<int[]> voters = new ArrayList<>();
        for (int bit = 0; bit < 31; bit++) {
            if ((seats >> bit & 1) == 1) {
                if (!there(0, bit)) {
                    return -2;
                }
                voters.add(who(0, bit));
            }
        }
        if (seats < 1 || !in(votes, 1, voters.size()) || !there(1, j)) {
            return -2;
        }
        return bargain(new Seat(0, who(0, 0), voters, votes), seat(1, j)).share();
    }

    private int recall(int side, int i, int j) {
        if (!in(side, 0, 1) || !pair(i, j)) {
            return -2;
        }
        Outcome o = meet(i, j);
        if (way == 2 || o.share() == NOTHING) {
            return -3;
        }
        int[] sent = side == 0 ? who(0, i) : who(1, j);
        int c = 0;
        while (bySide(side, sent, o.share()) < unsettled(side, sent) - c) {
            c++;
        }
        return c;
    }

    private int middle(int i, int j, int what) {
        if (!pair(i, j) || what < -1) {
            return -10;
        }
        if (way == 2) {
            return -20;
        }
        List<Integer> list = new ArrayList<>();
        for (int x : common(seat(0, i), seat(1, j))) {
            boolean first = Frac.of(bySide(0, who(0, i), x), 1).compareTo(holding(0, i, j)) > 0;
            if (first && Frac.of(bySide(1, who(1, j), x), 1).compareTo(holding(1, i, j)) > 0) {
                list.add(x);
            }
        }
        return pick(list, what);
    }

    private int edge(int side) {
        if (!in(side, 0, 1)) {
            return -2;
        }
        int first = pick(rests(), 0);
        int slope = who(side, 0)[0];
        int answer = -1;
        for (int more = 30; more >= 1; more--) {
            who(side, 0)[0] = slope + more;
            answer = pick(rests(), 0) == first ? answer : more;
        }
        who(side, 0)[0] = slope;
        return answer;
    }

    private long part(int what) {
        return what == 0 ? fraction.above().longValue() : what == 1 ? fraction.below().longValue() : -1000000;
    }

    private long digest() {
        List<Long> all = new ArrayList<>();
        add(all, n, envoys.get(0).size(), envoys.get(1).size());
        for (List<int[]> side : envoys) {
            for (int[] e : side) {
                add(all, e);
            }
        }
        add(all, way, rounds, delay, a, b, text.length());
        for (char c : text.toCharArray()) {
            add(all, c);
        }
        all.add(fraction.above().longValue());
        all.add(fraction.below().longValue());
        BigInteger h = BigInteger.valueOf(463);
        for (long v : all) {
            h = h.multiply(BigInteger.valueOf(31)).add(BigInteger.valueOf(v));
        }
        return h.longValue();
    }

    private static void add(List<Long> all, int... values) {
        for (int v : values) {
            all.add((long) v);
        }
    }
}
