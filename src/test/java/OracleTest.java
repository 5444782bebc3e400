/** Many runs of drawn calls, the same each time, on the program and on the oracle. */
public final class OracleTest {
    private static final String[] CALLS = {"steps", "envoy", "put", "worth", "takes", "set", "lot", "write",
        "erase", "fault", "settle", "round", "has", "best", "rest", "lose", "weight", "thought", "paid", "hard",
        "committee", "recall", "middle", "edge", "part", "count", "digest"};
    private static final int[] MANY = {2, 3, 30, 4, 4, 6, 3, 0,
        0, 2, 12, 6, 12, 6, 6, 4, 5, 6, 1, 3, 12, 8, 10, 1, 3, 1, 3};
    private static final int[] LEAST = {0, 0, 0, 0, -500, 0, 0, 0, 0};
    private static final int[] MOST = {60, 24, 200, 60, 500, 24, 24, 60, 200};
    private static final String SIGNS = "llunwv0123456789+-*/<>=&|!()() -z";
    private static final int RUNS = 400, LENGTH = 120;
    // Only 512 calls of one object are promised; a step with a new text may take some eighty.
    private static final int MOST_CALLS = 420;

    private int calls = 0;
    private long seed = 20261118;
    private final Dues dues = new Dues();

    public static void main(String[] args) {
        OracleTest test = new OracleTest();
        for (int run = 0; run < RUNS; run++) {
            test.dues.begin("run " + run);
            test.run(run % 4);
        }
        test.faults();
        test.dues.end();
    }

    private int draw(int below) {
        seed = seed * 6364136223846793005L + 1442695040888963407L;
        return (int) ((seed >>> 33) % below);
    }

    private int between(int least, int most) {
        return least + draw(most - least + 1);
    }

    /** Mostly a number as told, now and then one that is not. */
    private int mostly(int least, int most) {
        switch (draw(40)) {
            case 0: return least - 1;
            case 1: return most + 1;
            case 2: return draw(2) == 0 ? Integer.MIN_VALUE : Integer.MAX_VALUE;
            default: return between(least, most);
        }
    }

    private void run(int kind) {
        HardEnvoys x = new HardEnvoys();
        Oracle o = new Oracle();
        calls = 0;
        both(x, o, "set", 0, kind);
        for (int more = draw(5); more > 0; more--) {
            both(x, o, "envoy", draw(2));
        }
        for (int step = 0; step < LENGTH && calls < MOST_CALLS; step++) {
            if (draw(20) == 0) {
                rewrite(x, o);
            }
            String name = drawName();
            both(x, o, name, numbersFor(name, o));
        }
        both(x, o, "digest");
    }

    private String drawName() {
        int sum = 0;
        for (int many : MANY) {
            sum += many;
        }
        int left = draw(sum);
        int at = 0;
        while (left >= MANY[at]) {
            left -= MANY[at];
            at++;
        }
        return CALLS[at];
    }

    private void rewrite(HardEnvoys x, Oracle o) {
        both(x, o, "erase");
        String text = draw(3) == 0 ? scrawl(draw(42)) : sentence(3);
        for (int at = 0; at < text.length(); at++) {
            both(x, o, "write", text.charAt(at));
        }
        both(x, o, "write", draw(30) == 0 ? mostly(0, 127) : ' ');
        both(x, o, "fault");
    }

    private String scrawl(int length) {
        StringBuilder text = new StringBuilder();
        for (int at = 0; at < length; at++) {
            text.append(SIGNS.charAt(draw(SIGNS.length())));
        }
        return text.toString();
    }

    /** A rule without a fault, if it is not too long. */
    private String sentence(int depth) {
        switch (depth <= 0 ? draw(2) : draw(9)) {
            case 0: return "" + "lunwv".charAt(draw(5));
            case 1: return "" + draw(draw(2) == 0 ? 12 : 1000000);
            case 2: return (draw(2) == 0 ? "!" : "-") + sentence(depth - 2);
            case 3: return "(" + sentence(depth - 1) + ")";
            case 4: return "(" + sentence(depth - 1) + " " + "<>=".charAt(draw(3)) + sentence(depth - 2) + ")";
            default: return sentence(depth - 1) + "+-*/+-*/&|".charAt(draw(10)) + sentence(depth - 1);
        }
    }

    private int[] numbersFor(String name, Oracle o) {
        int side = mostly(0, 1);
        int[] most = {o.envoys.get(0).size() - 1, o.envoys.get(1).size() - 1};
        int own = side == 0 || side == 1 ? mostly(0, most[side]) : 0;
        int other = side == 0 || side == 1 ? mostly(0, most[1 - side]) : 0;
        int i = mostly(0, most[0]);
        int j = mostly(0, most[1]);
        switch (name) {
            case "steps": return new int[] {mostly(1, 24)};
            case "put": return drawPut(side, own);
            case "worth":
            case "takes": return new int[] {side, own, mostly(0, o.n)};
            case "set": return drawSet();
            case "lot": return new int[] {mostly(0, 5), mostly(1, 9)};
            case "settle":
            case "round": return new int[] {i, j};
            case "has":
            case "recall": return new int[] {side, i, j};
            case "best": return new int[] {side, other};
            case "rest": return new int[] {mostly(-1, 4)};
            case "lose":
            case "part": return new int[] {mostly(0, 1)};
            case "weight": return new int[] {side, own, mostly(0, 9)};
            case "paid":
            case "hard": return new int[] {side, own, other};
            case "committee": return drawCommittee(most[0], j);
            case "middle": return new int[] {i, j, mostly(-1, 6)};
            case "envoy":
            case "thought":
            case "edge":
            case "count": return new int[] {side};
            default: return new int[0];
        }
    }

    /** Numbers in the middle of their ranges, so that there is often something to settle. */
    private int[] drawPut(int side, int own) {
        int what = mostly(0, 8);
        if (what < 0 || what > 8) {
            return new int[] {side, own, what, 0};
        }
        int v = mostly(LEAST[what], MOST[what]);
        if (draw(4) != 0) {
            int[] usual = {25, 15, 100, 8, 120, 7, 10, 12, 30};
            v = what == 4 ? between(-80, usual[4]) : draw(usual[what]);
        }
        return new int[] {side, own, what, v};
    }

    private int[] drawSet() {
        int what = mostly(0, 2);
        int[] most = {3, 9, 50};
        return new int[] {what, mostly(0, what < 0 || what > 2 ? 3 : most[what])};
    }

    private int[] drawCommittee(int mostEnvoy, int j) {
        int seats = draw(12) == 0 ? draw(64) : 1 + draw((2 << mostEnvoy) - 1);
        return new int[] {seats, draw(12) == 0 ? draw(7) : between(1, Math.max(1, Integer.bitCount(seats))), j};
    }

    private void both(HardEnvoys x, Oracle o, String name, int... v) {
        calls++;
        dues.due(Run.text(name, v), Calls.of(x, name, v), o.call(name, v));
    }

    /** Texts alone: every fault, each against the judgement by two states. */
    private void faults() {
        dues.begin("faults");
        for (int turn = 0; turn < 20000; turn++) {
            HardEnvoys x = new HardEnvoys();
            String text = draw(2) == 0 ? scrawl(draw(41)) : spoiled(sentence(5));
            for (int at = 0; at < text.length() && at < 40; at++) {
                x.write(text.charAt(at));
            }
            String kept = text.substring(0, Math.min(40, text.length()));
            dues.due("fault of '" + kept + "'", x.fault(), Oracle.fault(kept));
        }
    }

    private String spoiled(String text) {
        if (draw(2) == 0) {
            return text;
        }
        StringBuilder other = new StringBuilder(text);
        other.insert(draw(text.length() + 1), SIGNS.charAt(draw(SIGNS.length())));
        return other.toString();
    }
}
