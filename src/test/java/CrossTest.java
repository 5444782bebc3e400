/**
 * Every call with every combination of numbers at the ends of its ranges and just beyond, in four states
 * and all ways, against the oracle: the answer, and by the digest what is changed. Nothing may throw.
 */
public final class CrossTest {
    private static final int MAX = Integer.MAX_VALUE, MIN = Integer.MIN_VALUE;
    private static final int MOST_CALLS = 500;
    private static final int[] SIDE = {MIN, -1, 0, 1, 2, MAX};
    private static final int[] ENVOY = {MIN, -1, 0, 1, 2, 3, 4, 5, MAX};
    private static final int[] WHAT = {MIN, -2, -1, 0, 1, 2, 3, 4, 5, 6, 7, 8, 9, MAX};
    private static final int[] VALUE = {MIN, -501, -500, -1, 0, 1, 24, 25, 60, 61, 200, 201, 500, 501, MAX};
    private static final int[] OWN = {MIN, -1, 0, 1, 2, 9, 10, 11, 23, 24, 25, MAX};
    private static final int[] SMALL = {MIN, -1, 0, 1, 2, 3, 4, 8, 9, 10, 50, 51, MAX};
    private static final int[] SIGN = {MIN, -1, 0, ' ', 'l', 'u', '(', 127, 128, MAX};
    private static final int[] WHICH = {MIN, -3, -2, -1, 0, 1, 2, 24, 25, MAX};
    private static final int[] SEATS = {MIN, MIN + 1, -1, 0, 1, 2, 3, 7, 16, 31, 32, 33, MAX};
    private static final int[] VOTES = {MIN, -1, 0, 1, 2, 3, 5, 6, MAX};
    private static final Dues DUES = new Dues();

    private final int state;
    private final int way;
    private HardEnvoys program;
    private Oracle oracle;
    private int calls;

    private CrossTest(int state, int way) {
        this.state = state;
        this.way = way;
    }

    public static void main(String[] args) {
        for (int state = 0; state < 4; state++) {
            for (int way = 0; way <= 3; way++) {
                DUES.begin("state " + state + ", way " + way);
                new CrossTest(state, way).all();
            }
        }
        DUES.end();
    }

    private void all() {
        cross("steps", OWN);
        cross("envoy", SIDE);
        cross("put", SIDE, ENVOY, WHAT, VALUE);
        cross("worth", SIDE, ENVOY, OWN);
        cross("takes", SIDE, ENVOY, OWN);
        cross("set", WHAT, SMALL);
        cross("lot", SMALL, SMALL);
        cross("write", SIGN);
        cross("erase");
        cross("fault");
        cross("settle", ENVOY, ENVOY);
        cross("round", ENVOY, ENVOY);
        cross("has", SIDE, ENVOY, ENVOY);
        cross("best", SIDE, ENVOY);
        cross("rest", WHICH);
        cross("lose", WHICH);
        cross("weight", SIDE, ENVOY, SMALL);
        cross("thought", SIDE);
        cross("paid", new int[] {-1, 0, 1, 2}, new int[] {-1, 0, 1, 5}, new int[] {-1, 0, 4, 5});
        cross("hard", SIDE, ENVOY, ENVOY);
        cross("committee", SEATS, VOTES, ENVOY);
        cross("recall", SIDE, ENVOY, ENVOY);
        cross("middle", ENVOY, ENVOY, WHICH);
        cross("edge", new int[] {MIN, -1, 0, 1, 2, MAX});
        cross("part", WHICH);
        cross("count", SIDE);
        cross("digest");
    }

    private void cross(String name, int[]... numbers) {
        renew();
        combine(name, new int[numbers.length], 0, numbers);
    }

    private void combine(String name, int[] v, int at, int[][] numbers) {
        if (at == v.length) {
            if (calls + 2 > MOST_CALLS) {
                renew();
            }
            both(name, v);
            both("digest");
            return;
        }
        for (int number : numbers[at]) {
            v[at] = number;
            combine(name, v, at + 1, numbers);
        }
    }

    private void both(String name, int... v) {
        calls++;
        DUES.due(Run.text(name, v), Calls.of(program, name, v), oracle.call(name, v));
    }

    private void tell(String text) {
        for (int at = 0; at < text.length(); at++) {
            both("write", text.charAt(at));
        }
    }

    /** A new object in one of the states: new; two envoys; a full one of small, one of great numbers. */
    private void renew() {
        program = new HardEnvoys();
        oracle = new Oracle();
        calls = 0;
        both("set", 0, way);
        for (int more = 0; more < new int[] {0, 1, 4, 4}[state]; more++) {
            both("envoy", 0);
            both("envoy", state == 1 ? 0 : 1);
        }
        if (state == 1) {
            both("put", 0, 1, 5, 6);
            both("put", 0, 2, 4, 45);
            both("steps", 1);
            both("steps", 10);
            tell("u-1");
        } else if (state == 2) {
            tell("(l+u)/2");
            for (int envoy = 1; envoy < 5; envoy++) {
                both("put", 0, envoy, 4, 15 * envoy);
                both("put", 1, envoy, 5, 2 * envoy);
                both("put", 1, envoy, 8, envoy);
            }
        } else if (state == 3) {
            fill();
        }
    }

    private void fill() {
        both("steps", 24);
        both("set", 1, 9);
        both("set", 2, 50);
        both("lot", 8, 9);
        tell("w*999999*999999*999999+v*u/(l-l)|!n<-(-7");
        int[] most = {60, 24, 200, 60, 500, 24, 24, 60, 200};
        for (int envoy = 0; envoy < 5; envoy++) {
            for (int what = 0; what <= 8; what++) {
                boolean great = (envoy + what) % 2 == 0 && what != 5;
                both("put", 0, envoy, what, great ? most[what] : 1);
                both("put", 1, envoy, what, great ? most[what] - 1 : 0);
            }
            both("weight", 1, envoy, envoy == 2 ? 9 : 0);
        }
        both("has", 0, 4, 4);
    }
}
