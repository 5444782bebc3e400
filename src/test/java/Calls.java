/** Calls of the program by name. */
final class Calls {
    private Calls() {
    }

    static long of(HardEnvoys x, String name, int... v) {
        switch (name) {
            case "steps": return x.steps(v[0]);
            case "envoy": return x.envoy(v[0]);
            case "put": return x.put(v[0], v[1], v[2], v[3]);
            case "worth": return x.worth(v[0], v[1], v[2]);
            case "takes": return x.takes(v[0], v[1], v[2]);
            case "set": return x.set(v[0], v[1]);
            case "lot": return x.lot(v[0], v[1]);
            case "write": return x.write(v[0]);
            case "erase": return x.erase();
            case "fault": return x.fault();
            case "settle": return x.settle(v[0], v[1]);
            case "round": return x.round(v[0], v[1]);
            case "has": return x.has(v[0], v[1], v[2]);
            case "best": return x.best(v[0], v[1]);
            case "rest": return x.rest(v[0]);
            case "lose": return x.lose(v[0]);
            case "weight": return x.weight(v[0], v[1], v[2]);
            case "thought": return x.thought(v[0]);
            case "paid": return x.paid(v[0], v[1], v[2]);
            case "hard": return x.hard(v[0], v[1], v[2]);
            case "committee": return x.committee(v[0], v[1], v[2]);
            case "recall": return x.recall(v[0], v[1], v[2]);
            case "middle": return x.middle(v[0], v[1], v[2]);
            case "edge": return x.edge(v[0]);
            case "part": return x.part(v[0]);
            case "count": return x.count(v[0]);
            case "digest": return x.digest();
            default: throw new IllegalArgumentException(name);
        }
    }
}
