/**
 * Every number of every call: the least and the greatest that is taken, the next one on either side and
 * the ends of int, with few and with all envoys, in the least, a middle and the greatest wood. A number
 * that is not as told is answered by the call's own BAD, and changes nothing.
 */
public final class RangesTest {
    private static final int BAD = -2, BAD_PUT = -1000, BAD_WORTH = -100000, BAD_PART = -1000000, BAD_WHICH = -10;
    private static final int MAX = Integer.MAX_VALUE, MIN = Integer.MIN_VALUE;
    private static final int[] LEAST = {0, 0, 0, 0, -500, 0, 0, 0, 0};
    private static final int[] MOST = {60, 24, 200, 60, 500, 24, 24, 60, 200};
    private static final Dues DUES = new Dues();

    private final int first;
    private final int second;
    private final int wood;
    private final int way;

    private RangesTest(int first, int second, int wood, int way) {
        this.first = first;
        this.second = second;
        this.wood = wood;
        this.way = way;
    }

    public static void main(String[] args) {
        for (int way = 0; way <= 3; way++) {
            new RangesTest(1, 1, 10, way).all();
            new RangesTest(2, 3, 1, way).all();
            new RangesTest(4, 2, 23, way).all();
            new RangesTest(5, 5, 24, way).all();
        }
        DUES.end();
    }

    private void all() {
        plainNumbers();
        nineNumbers();
        ways();
        pairs();
        for (int side = 0; side <= 1; side++) {
            sides(side);
        }
        committees();
    }

    private int count(int side) {
        return side == 0 ? first : second;
    }

    /** What is not at its first value, so that a change by a refused call is seen. */
    private Run ready() {
        Run run = new Run(DUES, "ranges, " + first + " and " + second + " envoys, a wood of " + wood);
        run.envoys(first, second).after("steps", wood).after("set", 0, way).after("has", 0, 0, 0);
        return run.after("lot", 3, 7).after("set", 1, 5).after("set", 2, 6).tell("u-1");
    }

    /** The number at a place of a call is taken from least to most, and no other is. */
    private void range(long bad, int least, int most, int at, String name, int... v) {
        Run run = ready();
        int[] numbers = v.clone();
        for (int taken : new int[] {least, most, (int) ((0L + least + most) / 2)}) {
            numbers[at] = taken;
            run.isNot(bad, name, numbers);
        }
        run = ready();
        for (long other : new long[] {least - 1L, most + 1L, least - 2L, most + 2L, MIN, MAX}) {
            if (other >= MIN && other <= MAX && (other < least || other > most)) {
                numbers[at] = (int) other;
                run.refuses(bad, name, numbers);
            }
        }
    }

    private void plainNumbers() {
        range(BAD, 1, 24, 0, "steps", 0);
        range(BAD, 0, 1, 0, "envoy", 0);
        range(BAD, 0, 127, 0, "write", 0);
        range(BAD_WHICH, -1, MAX, 0, "rest", 0);
        range(BAD, 0, 1, 0, "lose", 0);
        range(BAD, 0, 1, 0, "thought", 0);
        range(BAD, 0, 1, 0, "edge", 0);
        range(BAD_PART, 0, 1, 0, "part", 0);
        range(BAD, 0, 1, 0, "count", 0);
    }

    private void nineNumbers() {
        for (int what = 0; what <= 8; what++) {
            range(BAD_PUT, LEAST[what], MOST[what], 3, "put", 0, 0, what, 0);
            range(BAD_PUT, LEAST[what], MOST[what], 3, "put", 0, first - 1, what, 0);
            range(BAD_PUT, LEAST[what], MOST[what], 3, "put", 1, second - 1, what, 0);
        }
        range(BAD_PUT, 0, 8, 2, "put", 0, 0, 0, 0);
        range(BAD_PUT, 0, 8, 2, "put", 1, second - 1, 0, 0);
    }

    private void ways() {
        range(BAD, 0, 2, 0, "set", 0, 1);
        range(BAD, 0, 3, 1, "set", 0, 0);
        range(BAD, 1, 9, 1, "set", 1, 0);
        range(BAD, 0, 50, 1, "set", 2, 0);
        range(BAD, 1, 9, 1, "lot", 0, 0);
        range(BAD, 1, 9, 1, "lot", 1, 0);
        range(BAD, 8, 9, 1, "lot", 8, 0);
        for (int below = 1; below <= 9; below++) {
            range(BAD, 0, below, 0, "lot", 0, below);
        }
    }

    private void pairs() {
        int last = second - 1;
        range(BAD, 0, first - 1, 0, "settle", 0, last);
        range(BAD, 0, last, 1, "settle", first - 1, 0);
        range(BAD, 0, first - 1, 0, "round", 0, last);
        range(BAD, 0, last, 1, "round", first - 1, 0);
        range(BAD_WHICH, 0, first - 1, 0, "middle", 0, last, -1);
        range(BAD_WHICH, 0, last, 1, "middle", first - 1, 0, -1);
        range(BAD_WHICH, -1, MAX, 2, "middle", first - 1, last, 0);
    }

    /** The calls that name a side: its envoys, and those of the other one. */
    private void sides(int side) {
        int own = count(side) - 1;
        int other = count(1 - side) - 1;
        range(BAD_PUT, 0, 1, 0, "put", side, 0, 0, 0);
        range(BAD_PUT, 0, own, 1, "put", side, 0, 0, 0);
        range(BAD_WORTH, 0, 1, 0, "worth", side, 0, 0);
        range(BAD_WORTH, 0, own, 1, "worth", side, 0, 0);
        range(BAD_WORTH, 0, wood, 2, "worth", side, own, 0);
        range(BAD, 0, 1, 0, "takes", side, 0, 0);
        range(BAD, 0, own, 1, "takes", side, 0, 0);
        range(BAD, 0, wood, 2, "takes", side, own, 0);
        range(BAD, 0, 1, 0, "best", side, 0);
        range(BAD, 0, other, 1, "best", side, 0);
        range(BAD, 0, 1, 0, "weight", side, 0, 0);
        range(BAD, 0, own, 1, "weight", side, 0, 0);
        range(BAD, 0, 9, 2, "weight", side, own, 0);
        range(BAD, 0, 1, 0, "hard", side, 0, 0);
        range(BAD, 0, own, 1, "hard", side, 0, other);
        range(BAD, 0, other, 2, "hard", side, own, 0);
        for (String name : new String[] {"has", "recall"}) {
            range(BAD, 0, 1, 0, name, side, 0, 0);
            range(BAD, 0, first - 1, 1, name, side, 0, second - 1);
            range(BAD, 0, second - 1, 2, name, side, first - 1, 0);
        }
        ready().refuses(BAD, "paid", side, 0, 0);
        ready().refuses(BAD, "paid", side, 0, other);
        if (own > 0) {
            range(BAD, 1, own, 1, "paid", side, 0, other);
            range(BAD, 0, other, 2, "paid", side, own, 0);
        } else {
            ready().refuses(BAD, "paid", side, 1, 0);
        }
        if (first > 1 && second > 1) {
            range(BAD, 0, 1, 0, "paid", side, 1, 0);
        }
    }

    private void committees() {
        int all = (1 << first) - 1;
        range(BAD, 1, all, 0, "committee", 0, 1, second - 1);
        range(BAD, 1, first, 1, "committee", all, 0, second - 1);
        range(BAD, 0, second - 1, 2, "committee", all, first, 0);
        for (int seats = 1; seats <= all; seats++) {
            range(BAD, 1, Integer.bitCount(seats), 1, "committee", seats, 0, 0);
        }
    }
}
