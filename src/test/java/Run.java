/**
 * Calls on one new object, each with the answer that is due. A refused call, and one that only asks,
 * must leave the digest as it was.
 */
final class Run {
    private static final int MOST_CALLS = 512;

    private final Dues dues;
    private final HardEnvoys x = new HardEnvoys();
    private int calls = 0;

    Run(Dues dues, String name) {
        this.dues = dues;
        dues.begin(name);
    }

    /** What later calls answer is free: a test that asks for more than the document promises is wrong. */
    long call(String name, int... v) {
        calls++;
        if (calls > MOST_CALLS) {
            dues.due("calls of one object", calls, MOST_CALLS);
        }
        return Calls.of(x, name, v);
    }

    Run is(long want, String name, int... v) {
        dues.due(text(name, v), call(name, v), want);
        return this;
    }

    /** A call whose answer is not looked at: it only makes ready. */
    Run after(String name, int... v) {
        call(name, v);
        return this;
    }

    Run isNot(long other, String name, int... v) {
        dues.due(text(name, v) + " is " + other, call(name, v) == other ? 1 : 0, 0);
        return this;
    }

    /** The answer is the due one, and nothing is changed. */
    Run keeps(long want, String name, int... v) {
        long before = call("digest");
        is(want, name, v);
        dues.due("digest() behind " + text(name, v), call("digest"), before);
        return this;
    }

    Run refuses(long want, String name, int... v) {
        return keeps(want, name, v);
    }

    Run fraction(long above, long below) {
        return is(above, "part", 0).is(below, "part", 1);
    }

    Run has(long above, long below, int side, int i, int j) {
        return is(1, "has", side, i, j).fraction(above, below);
    }

    Run tell(String text) {
        call("erase");
        for (int at = 0; at < text.length(); at++) {
            call("write", text.charAt(at));
        }
        return this;
    }

    Run envoys(int first, int second) {
        for (int more = 1; more < first; more++) {
            call("envoy", 0);
        }
        for (int more = 1; more < second; more++) {
            call("envoy", 1);
        }
        return this;
    }

    static String text(String name, int... v) {
        StringBuilder call = new StringBuilder(name).append('(');
        for (int at = 0; at < v.length; at++) {
            call.append(at == 0 ? "" : ", ").append(v[at]);
        }
        return call.append(')').toString();
    }
}
