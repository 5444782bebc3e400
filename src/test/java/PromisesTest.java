/** Promise by promise: ordinary inputs, the edges that the document names, and wrong inputs. */
public final class PromisesTest {
    private static final int SLOPE = 0, MARK = 1, BONUS = 2, HATE = 3, WALK = 4, ORDERS = 5, PIECE = 6,
            PAY = 7, COST = 8;
    private static final int PRODUCTS = 0, OFFERS = 1, LOT = 2, RULE = 3;
    private static final int[] WRONG_SIDES = {-1, 2, Integer.MIN_VALUE, Integer.MAX_VALUE};
    private static final Dues DUES = new Dues();

    public static void main(String[] args) {
        newObject();
        steps();
        envoy();
        put();
        worth();
        takes();
        set();
        lot();
        write();
        erase();
        fault();
        settleByProducts();
        settleByOffers();
        settleByLot();
        settleByRule();
        settleRefused();
        round();
        has();
        best();
        rest();
        lose();
        weight();
        thought();
        paid();
        hard();
        committee();
        committeeByOffers();
        recall();
        middle();
        edge();
        part();
        count();
        digest();
        DUES.end();
    }

    private static void due(String call, long got, long want) {
        DUES.due(call, got, want);
    }

    private static HardEnvoys begin(String name) {
        DUES.begin(name);
        return new HardEnvoys();
    }

    private static HardEnvoys ruled(String text) {
        HardEnvoys x = new HardEnvoys();
        x.set(0, RULE);
        tell(x, text);
        return x;
    }

    private static void tell(HardEnvoys x, String text) {
        x.erase();
        for (int at = 0; at < text.length(); at++) {
            x.write(text.charAt(at));
        }
    }

    private static long digestOf(long... values) {
        long h = 463;
        for (long value : values) {
            h = 31 * h + value;
        }
        return h;
    }

    private static void newObject() {
        HardEnvoys x = begin("1 a new object");
        due("count(0)", x.count(0), 1);
        due("count(1)", x.count(1), 1);
        due("part(0)", x.part(0), 0);
        due("part(1)", x.part(1), 1);
        due("fault()", x.fault(), 1);
        due("erase()", x.erase(), 0);
        due("steps(10)", x.steps(10), 10);
        due("set(0, 0)", x.set(0, 0), 0);
        due("set(1, 2)", x.set(1, 2), 2);
        due("set(2, 0)", x.set(2, 0), 0);
        for (int side = 0; side < 2; side++) {
            due("put SLOPE", x.put(side, 0, SLOPE, 10), 10);
            for (int what = 1; what <= COST; what++) {
                due("put " + what, x.put(side, 0, what, 0), 0);
            }
            due("weight", x.weight(side, 0, 1), 1);
        }
        x.set(0, LOT);
        x.has(0, 0, 0);
        DUES.fraction("odds 1 by 2", x, 50, 1);
        due("NONE", HardEnvoys.NONE, -1);
        due("BAD", HardEnvoys.BAD, -2);
        due("NO", HardEnvoys.NO, -3);
        due("FULL", HardEnvoys.FULL, -4);
    }

    private static void steps() {
        HardEnvoys x = begin("2 steps");
        due("steps(1)", x.steps(1), 10);
        due("worth(0, 0, 1)", x.worth(0, 0, 1), 10);
        due("worth(0, 0, 2)", x.worth(0, 0, 2), -100000);
        due("steps(24)", x.steps(24), 1);
        due("worth(0, 0, 24)", x.worth(0, 0, 24), 240);
        due("steps(0)", x.steps(0), -2);
        due("steps(25)", x.steps(25), -2);
        due("steps(least)", x.steps(Integer.MIN_VALUE), -2);
        due("steps(most)", x.steps(Integer.MAX_VALUE), -2);
        due("steps(24)", x.steps(24), 24);
    }

    private static void envoy() {
        HardEnvoys x = begin("3 envoy");
        int[] told = {11, 3, 20, 4, -50, 2, 5, 6, 70};
        for (int what = 0; what <= COST; what++) {
            x.put(1, 0, what, told[what]);
        }
        x.weight(1, 0, 7);
        due("envoy(1)", x.envoy(1), 1);
        for (int what = 0; what < COST; what++) {
            due("number " + what + " as oneself's", x.put(1, 1, what, 0), told[what]);
        }
        due("COST 0", x.put(1, 1, COST, 5), 0);
        due("weight 1", x.weight(1, 1, 1), 1);
        due("oneself stays", x.put(1, 0, SLOPE, 11), 11);
        due("count(0)", x.count(0), 1);
        x.put(1, 0, SLOPE, 12);
        due("envoy(1)", x.envoy(1), 2);
        due("as oneself is now", x.put(1, 2, SLOPE, 12), 12);
        due("envoy(1)", x.envoy(1), 3);
        due("envoy(1)", x.envoy(1), 4);
        due("envoy(1) full", x.envoy(1), -4);
        due("count(1)", x.count(1), 5);
        due("envoy(0)", x.envoy(0), 1);
        for (int side : WRONG_SIDES) {
            due("envoy(" + side + ")", x.envoy(side), -2);
        }
    }

    private static void put() {
        HardEnvoys x = begin("4 put");
        int[] least = {0, 0, 0, 0, -500, 0, 0, 0, 0};
        int[] most = {60, 24, 200, 60, 500, 24, 24, 60, 200};
        for (int what = 0; what <= COST; what++) {
            x.put(0, 0, what, least[what]);
            due("below " + what, x.put(0, 0, what, least[what] - 1), -1000);
            due("above " + what, x.put(0, 0, what, most[what] + 1), -1000);
            due("most " + what, x.put(0, 0, what, most[what]), least[what]);
            due("least " + what, x.put(0, 0, what, least[what]), most[what]);
        }
        due("what -1", x.put(0, 0, -1, 0), -1000);
        due("what 9", x.put(0, 0, 9, 0), -1000);
        due("envoy -1", x.put(0, -1, 0, 0), -1000);
        due("no such envoy", x.put(0, 1, 0, 0), -1000);
        x.envoy(0);
        due("now there is", x.put(0, 1, 0, 5), 0);
        due("the other side has none", x.put(1, 1, 0, 5), -1000);
        for (int side : WRONG_SIDES) {
            due("side " + side, x.put(side, 0, 0, 0), -1000);
        }
    }

    private static void worth() {
        HardEnvoys x = begin("5 worth");
        x.put(0, 0, MARK, 4);
        x.put(0, 0, BONUS, 100);
        x.put(0, 0, HATE, 3);
        x.put(0, 0, PIECE, 5);
        x.put(0, 0, PAY, 7);
        x.put(0, 0, WALK, 33);
        x.put(0, 0, COST, 9);
        due("worth 0", x.worth(0, 0, 0), -30);
        due("worth 3", x.worth(0, 0, 3), 30 - 21);
        due("worth 4", x.worth(0, 0, 4), 40 + 100 - 18);
        due("worth 5", x.worth(0, 0, 5), 50 + 100 - 15);
        due("worth 6", x.worth(0, 0, 6), 60 + 100 - 12 + 7);
        due("worth 10", x.worth(0, 0, 10), 100 + 100 + 35);
        due("side 1", x.worth(1, 0, 10), 100);
        due("own -1", x.worth(0, 0, -1), -100000);
        due("own 11", x.worth(0, 0, 11), -100000);
        due("no such envoy", x.worth(0, 1, 0), -100000);
        due("envoy -1", x.worth(0, -1, 0), -100000);
        for (int side : WRONG_SIDES) {
            due("side " + side, x.worth(side, 0, 0), -100000);
        }
    }

    private static void takes() {
        HardEnvoys x = begin("6 takes");
        due("0 for nothing", x.takes(0, 0, 0), 1);
        x.put(0, 0, WALK, 50);
        due("under the walk", x.takes(0, 0, 4), 0);
        due("at the walk", x.takes(0, 0, 5), 1);
        x.put(0, 0, ORDERS, 7);
        due("under orders", x.takes(0, 0, 6), 0);
        due("at orders", x.takes(0, 0, 7), 1);
        x.put(0, 0, ORDERS, 24);
        due("orders above all", x.takes(0, 0, 10), 0);
        due("own -1", x.takes(0, 0, -1), -2);
        due("own 11", x.takes(0, 0, 11), -2);
        due("no such envoy", x.takes(1, 1, 0), -2);
        for (int side : WRONG_SIDES) {
            due("side " + side, x.takes(side, 0, 0), -2);
        }
    }

    private static void set() {
        HardEnvoys x = begin("7 set");
        due("way 3", x.set(0, 3), 0);
        due("way 0", x.set(0, 0), 3);
        due("way 4", x.set(0, 4), -2);
        due("way -1", x.set(0, -1), -2);
        due("rounds 9", x.set(1, 9), 2);
        due("rounds 1", x.set(1, 1), 9);
        due("rounds 0", x.set(1, 0), -2);
        due("rounds 10", x.set(1, 10), -2);
        due("rounds 1", x.set(1, 1), 1);
        due("delay 50", x.set(2, 50), 0);
        due("delay 51", x.set(2, 51), -2);
        due("delay -1", x.set(2, -1), -2);
        due("delay 0", x.set(2, 0), 50);
        due("what 3", x.set(3, 0), -2);
        due("what -1", x.set(-1, 0), -2);
    }

    private static void lot() {
        HardEnvoys x = begin("8 lot");
        x.set(0, LOT);
        due("lot(2, 6)", x.lot(2, 6), 1);
        x.has(0, 0, 0);
        DUES.fraction("2 by 6", x, 100, 3);
        due("lot(0, 9)", x.lot(0, 9), 1);
        x.has(0, 0, 0);
        DUES.fraction("0 by 9", x, 0, 1);
        due("lot(9, 9)", x.lot(9, 9), 1);
        due("a above b", x.lot(3, 2), -2);
        due("a -1", x.lot(-1, 2), -2);
        due("b 0", x.lot(0, 0), -2);
        due("b 10", x.lot(1, 10), -2);
        due("least", x.lot(Integer.MIN_VALUE, Integer.MIN_VALUE), -2);
        x.has(0, 0, 0);
        DUES.fraction("9 by 9 still", x, 100, 1);
    }

    private static void write() {
        HardEnvoys x = begin("9 write");
        due("write(-1)", x.write(-1), -2);
        due("write(128)", x.write(128), -2);
        due("write(0)", x.write(0), 1);
        due("write(127)", x.write(127), 2);
        for (int length = 3; length <= 40; length++) {
            due("write 'l' " + length, x.write('l'), length);
        }
        due("write full", x.write('l'), -4);
        due("BAD ahead of FULL", x.write(128), -2);
        due("erase()", x.erase(), 40);
        due("write(108)", x.write(108), 1);
    }

    private static void erase() {
        HardEnvoys x = begin("10 erase");
        due("erase()", x.erase(), 0);
        tell(x, "l+");
        due("erase()", x.erase(), 2);
        due("erase()", x.erase(), 0);
        due("fault()", x.fault(), 1);
        x.write('u');
        due("nothing old is left", x.fault(), -1);
    }

    private static void faultOf(String text, int want) {
        due("fault of '" + text + "'", ruled(text).fault(), want);
    }

    private static void fault() {
        begin("11 fault");
        faultOf("", 1);
        faultOf("l", -1);
        faultOf("   ", 31);
        faultOf(" 5 ", -1);
        faultOf("l+", 21);
        faultOf("l+ ", 31);
        faultOf("(l", 21);
        faultOf("l)", 11);
        faultOf("()", 11);
        faultOf("+l", 1);
        faultOf("l u", 21);
        faultOf("1 2", 21);
        faultOf("12 * 3", -1);
        faultOf("123456", -1);
        faultOf("l+1234567", 22);
        faultOf("l+1234567z", 22);
        faultOf("l 1234567", 21);
        faultOf("1<2", -1);
        faultOf("1<2<3", 31);
        faultOf("1<2=3", 31);
        faultOf("1<2&3>4|5=6", -1);
        faultOf("(1<2)<3", -1);
        faultOf("1|2&3", -1);
        faultOf("1||2", 21);
        faultOf("1!2", 11);
        faultOf("!!--l", -1);
        faultOf("- ! l", -1);
        faultOf("l--u", -1);
        faultOf("l*-u/!n", -1);
        faultOf("-", 11);
        faultOf("L", 1);
        faultOf("l\tu", 11);
        faultOf("((((((((l))))))))", -1);
        faultOf("(((((((((l", 83);
        faultOf("1+(((((((( (", 113);
        faultOf("((((((((l))))))))+(((((((( (l", 273);
        faultOf("(l)+(u)+(n)+(w)+(v)+(1)+(2)+(3)+(4)+(5)", -1);
        faultOf("((((((((l(", 91);
        faultOf("----------------------------------------", 401);
        faultOf("---------------------------------------l", -1);
        faultOf("!!!!!!!!!!!!!!!!!!!!!!!!!!!!!!!!!!!!!!!l", -1);
    }

    private static void settleByProducts() {
        HardEnvoys x = begin("12 settle by products");
        due("the middle", x.settle(0, 0), 5);
        x.steps(1);
        due("of like products the least", x.settle(0, 0), 0);
        x.steps(10);
        x.put(0, 0, WALK, 20);
        due("a walk of 20", x.settle(0, 0), 6);
        x.put(0, 0, ORDERS, 8);
        due("orders of 8", x.settle(0, 0), 8);
        x.put(1, 0, ORDERS, 2);
        due("orders that just meet", x.settle(0, 0), 8);
        x.put(1, 0, ORDERS, 3);
        due("orders that don't", x.settle(0, 0), -5);
        x.put(1, 0, ORDERS, 0);
        x.put(0, 0, ORDERS, 0);
        x.put(0, 0, WALK, 0);
        x.put(1, 0, HATE, 10);
        // (10 x) (10 (10 - x) - 10 x) is greatest between 2 and 3: 20 * 60 and 30 * 40.
        due("hate", x.settle(0, 0), 2);
        x.put(1, 0, HATE, 0);
        x.put(0, 0, MARK, 7);
        x.put(0, 0, BONUS, 100);
        // 5: 50 * 50; 7: 170 * 30.
        due("a bonus at 7", x.settle(0, 0), 7);
    }

    private static void settleByOffers() {
        HardEnvoys x = begin("12 settle by offers");
        x.set(0, OFFERS);
        due("two rounds: the last one has all", x.settle(0, 0), 0);
        x.set(2, 20);
        due("delay 20", x.settle(0, 0), 2);
        x.set(2, 50);
        due("delay 50", x.settle(0, 0), 5);
        x.set(2, 15);
        due("delay 15", x.settle(0, 0), 1);
        x.set(2, 20);
        x.set(1, 1);
        due("one round", x.settle(0, 0), 10);
        x.set(1, 3);
        due("three rounds", x.settle(0, 0), 10);
        x.set(1, 4);
        due("four rounds", x.settle(0, 0), 2);
        x.set(1, 4);
        x.put(1, 0, SLOPE, 30);
        // Back from round 3: shares 0, 0 (280 is left only there), 0, 0.
        due("a steeper side 1", x.settle(0, 0), 0);
        x.put(1, 0, SLOPE, 5);
        // Round 3: 0. Round 2: 30 left to 1: share 4 (40). Round 1: 20 left to 0: 2 (40). Round 0: 20: 6.
        due("a flatter side 1", x.settle(0, 0), 6);
        x.put(1, 0, SLOPE, 0);
        // Round 3: 1 gains 0 by all, proposes 0; then -20 is left: 0 takes all.
        due("a side 1 that cares for nothing", x.settle(0, 0), 10);
        x.put(1, 0, ORDERS, 4);
        x.put(0, 0, ORDERS, 7);
        due("orders that don't meet", x.settle(0, 0), -5);
    }

    private static void settleByLot() {
        HardEnvoys x = begin("12 settle by lot");
        x.set(0, LOT);
        due("0 speaks", x.settle(0, 0), 10);
        x.lot(0, 1);
        due("of 0 whatever the odds", x.settle(0, 0), 10);
        x.put(1, 0, WALK, 35);
        due("1 takes 4 or more", x.settle(0, 0), 6);
        x.put(0, 0, SLOPE, 0);
        due("of like ones the least", x.settle(0, 0), 0);
        x.put(0, 0, ORDERS, 7);
        due("nothing", x.settle(0, 0), -5);
    }

    private static void settledByRule(String text, int want) {
        HardEnvoys x = ruled(text);
        x.put(0, 0, WALK, 20);
        x.put(1, 0, WALK, 10);
        due("rule '" + text + "'", x.settle(0, 0), want);
    }

    /** Both take 2 .. 9 of 10; the walks are 20 and 10. */
    private static void settleByRule() {
        begin("12 settle by rule");
        settledByRule("", 2);
        settledByRule("u+", 2);
        settledByRule("l", 2);
        settledByRule("u", 9);
        settledByRule("n", 9);
        settledByRule("n-2", 8);
        settledByRule("w/4", 5);
        settledByRule("v/2", 5);
        settledByRule("(l+u)/2", 5);
        settledByRule("l+u/2", 6);
        settledByRule("u-l-3", 4);
        settledByRule("u-(l-3)", 9);
        settledByRule("16/2/2", 4);
        settledByRule("7/2*2", 6);
        settledByRule("2+3*2", 8);
        settledByRule("7/0+4", 4);
        settledByRule("-7/2+7", 4);
        settledByRule("0-100", 2);
        settledByRule("4|0", 2);
        settledByRule("(4|0)+3", 4);
        settledByRule("(4&3)+3", 4);
        settledByRule("(4&0)+3", 3);
        settledByRule("(0|0)+3", 3);
        settledByRule("(1|0&0)+3", 4);
        settledByRule("(1<2)*7", 7);
        settledByRule("(2<2)+3", 3);
        settledByRule("(3>2)*7", 7);
        settledByRule("(2>2)+3", 3);
        settledByRule("(2=2)*7", 7);
        settledByRule("(2=1)+3", 3);
        settledByRule("!0*7", 7);
        settledByRule("!5+3", 3);
        settledByRule("!-0*6", 6);
        settledByRule("-!0+6", 5);
        settledByRule("--6", 6);
        settledByRule("10--1-5", 6);
        settledByRule("1 0 - 5", 2);
        settledByRule(" 10 - 5 ", 5);
        settledByRule("(w>v)*4+(w<v)*8", 4);
        // 2 ^ 63 wraps to the least long; its opposite is itself, and so is what it is by -1.
        String least = "32768*262144*262144*4096";
        settledByRule("(" + least + "<0)*7", 7);
        settledByRule("-(" + least + ")", 2);
        settledByRule(least + "/-1", 2);
        settledByRule(least + "-1", 9);
        settledByRule("1-" + least, 2);
        settledByRule("-1-" + least, 9);
        settledByRule("999999*999999*999999*9", 9);
        HardEnvoys x = ruled("u");
        x.put(0, 0, WALK, 300);
        due("nothing that both take", x.settle(0, 0), -5);
    }

    private static void settleRefused() {
        HardEnvoys x = begin("12 settle, refused");
        due("settle(1, 0)", x.settle(1, 0), -2);
        due("settle(0, 1)", x.settle(0, 1), -2);
        due("settle(-1, 0)", x.settle(-1, 0), -2);
        due("settle(0, -1)", x.settle(0, -1), -2);
        due("settle(most, least)", x.settle(Integer.MAX_VALUE, Integer.MIN_VALUE), -2);
    }

    private static void round() {
        HardEnvoys x = begin("13 round");
        due("by products", x.round(0, 0), -1);
        x.set(0, LOT);
        due("by lot", x.round(0, 0), -1);
        x.set(0, RULE);
        due("by rule", x.round(0, 0), -1);
        x.set(0, OFFERS);
        due("by offers", x.round(0, 0), 0);
        x.set(1, 9);
        x.set(2, 50);
        due("by more offers", x.round(0, 0), 0);
        x.put(0, 0, WALK, 101);
        due("nothing", x.round(0, 0), -1);
        due("round(1, 0)", x.round(1, 0), -2);
        due("round(0, -1)", x.round(0, -1), -2);
    }

    private static void has() {
        HardEnvoys x = begin("14 has");
        x.envoy(0);
        x.put(0, 0, BONUS, 5);
        x.put(0, 0, COST, 3);
        x.put(0, 1, PIECE, 4);
        x.put(0, 1, PAY, 2);
        x.put(0, 1, COST, 11);
        x.put(0, 1, ORDERS, 7);
        due("settle(1, 0)", x.settle(1, 0), 7);
        due("has(0, 1, 0)", x.has(0, 1, 0), 1);
        DUES.fraction("75 less cost and pay", x, 75 - 11 - 6, 1);
        due("has(1, 1, 0)", x.has(1, 1, 0), 1);
        DUES.fraction("what is left", x, 30, 1);
        due("settle(0, 0)", x.settle(0, 0), 5);
        due("has(0, 0, 0)", x.has(0, 0, 0), 1);
        DUES.fraction("oneself costs, too", x, 55 - 3, 1);
        x.put(0, 0, PAY, 4);
        x.put(0, 0, ORDERS, 6);
        due("has(0, 0, 0)", x.has(0, 0, 0), 1);
        DUES.fraction("oneself is paid and pays", x, 65 - 3, 1);
        x.put(0, 0, PAY, 0);
        x.put(1, 0, ORDERS, 5);
        x.put(0, 0, WALK, -20);
        due("has(0, 1, 0)", x.has(0, 1, 0), 1);
        DUES.fraction("nothing is settled", x, -20 - 11, 1);
        x.put(1, 0, ORDERS, 0);
        x.put(0, 0, WALK, 0);
        x.set(0, LOT);
        x.lot(3, 8);
        // 0 speaking 10, else 7: (3 * (105 - 11 - 12) + 5 * 58) by 8 = 536 by 8.
        due("has(0, 1, 0)", x.has(0, 1, 0), 1);
        DUES.fraction("by lot", x, 67, 1);
        due("has(1, 1, 0)", x.has(1, 1, 0), 1);
        DUES.fraction("by lot", x, 75, 4);
        due("side 2", x.has(2, 1, 0), -2);
        due("side -1", x.has(-1, 1, 0), -2);
        due("i", x.has(0, 2, 0), -2);
        due("j", x.has(0, 0, 1), -2);
        DUES.fraction("refused, it stays", x, 75, 4);
        x.put(1, 0, ORDERS, 10);
        x.has(0, 1, 0);
        DUES.fraction("by lot nothing", x, -11, 1);
    }

    /** A quarrel in which each gains a step by a harder man, who costs 5. */
    private static HardEnvoys trap(String name) {
        HardEnvoys x = begin(name);
        for (int side = 0; side < 2; side++) {
            x.envoy(side);
            x.put(side, 1, WALK, 20);
            x.put(side, 1, COST, 5);
        }
        return x;
    }

    private static void best() {
        HardEnvoys x = trap("15 best");
        due("best(0, 0)", x.best(0, 0), 1);
        due("best(0, 1)", x.best(0, 1), 1);
        due("best(1, 0)", x.best(1, 0), 1);
        due("best(1, 1)", x.best(1, 1), 1);
        x.put(0, 1, COST, 10);
        due("of like ones the least", x.best(0, 0), 0);
        x.put(0, 1, COST, 11);
        due("too dear", x.best(0, 1), 0);
        x.envoy(0);
        due("j of the other side", x.best(1, 2), 1);
        due("no such j", x.best(0, 2), -2);
        due("j -1", x.best(0, -1), -2);
        for (int side : WRONG_SIDES) {
            due("side " + side, x.best(side, 0), -2);
        }
    }

    private static void rest() {
        HardEnvoys x = trap("16 rest");
        due("rest(-1)", x.rest(-1), 1);
        due("rest(0)", x.rest(0), 11);
        due("rest(1)", x.rest(1), -5);
        due("rest(most)", x.rest(Integer.MAX_VALUE), -5);
        due("rest(-2)", x.rest(-2), -10);
        x.put(0, 1, COST, 10);
        x.put(1, 1, COST, 10);
        due("rest(-1), all like", x.rest(-1), 4);
        due("rest(0)", x.rest(0), 0);
        due("rest(1)", x.rest(1), 1);
        due("rest(2)", x.rest(2), 10);
        due("rest(3)", x.rest(3), 11);
        due("rest(4)", x.rest(4), -5);
    }

    private static void lose() {
        HardEnvoys x = trap("17 lose");
        due("lose(0)", x.lose(0), 1);
        due("lose(1)", x.lose(1), 0);
        x.put(0, 1, COST, 0);
        due("one who has as much does not lose", x.lose(0), 0);
        x.put(0, 1, ORDERS, 7);
        x.put(1, 1, ORDERS, 4);
        due("lose(1)", x.lose(1), 1);
        x.put(1, 0, ORDERS, 4);
        due("lose(1)", x.lose(1), 2);
        x.set(0, LOT);
        due("lose(1) by lot", x.lose(1), 2);
        due("lose(2)", x.lose(2), -2);
        due("lose(-1)", x.lose(-1), -2);
    }

    private static void weight() {
        HardEnvoys x = begin("18 weight");
        x.envoy(1);
        due("weight(1, 1, 9)", x.weight(1, 1, 9), 1);
        due("weight(1, 1, 0)", x.weight(1, 1, 0), 9);
        due("weight(1, 1, 10)", x.weight(1, 1, 10), -2);
        due("weight(1, 1, -1)", x.weight(1, 1, -1), -2);
        due("weight(1, 1, 3)", x.weight(1, 1, 3), 0);
        due("weight(1, 0, 2)", x.weight(1, 0, 2), 1);
        due("no such envoy", x.weight(0, 1, 1), -2);
        due("envoy -1", x.weight(0, -1, 1), -2);
        for (int side : WRONG_SIDES) {
            due("side " + side, x.weight(side, 0, 1), -2);
        }
    }

    private static void thought() {
        HardEnvoys x = trap("19 thought");
        due("thought(0)", x.thought(0), 1);
        // 60 - 5 against oneself, 50 - 5 against a harder man.
        DUES.fraction("the mean", x, 50, 1);
        x.weight(1, 1, 2);
        due("thought(0)", x.thought(0), 1);
        DUES.fraction("1 and 2", x, 145, 3);
        x.weight(1, 0, 0);
        x.weight(1, 1, 3);
        due("thought(0)", x.thought(0), 1);
        DUES.fraction("only the harder man", x, 45, 1);
        x.put(0, 1, COST, 10);
        due("of like ones the least", x.thought(0), 0);
        DUES.fraction("gives way", x, 40, 1);
        due("thought(1)", x.thought(1), 1);
        DUES.fraction("the other one", x, 50, 1);
        x.weight(1, 1, 0);
        due("no weight", x.thought(0), -3);
        due("side 2", x.thought(2), -2);
        due("side -1", x.thought(-1), -2);
        DUES.fraction("refused, it stays", x, 50, 1);
        x.weight(1, 0, 1);
        x.set(0, LOT);
        x.lot(1, 3);
        // Oneself has 10 or 0 steps; the harder man 10 or 2, for 10.
        due("by lot", x.thought(0), 1);
        DUES.fraction("by lot", x, 110, 3);
    }

    private static void paid() {
        HardEnvoys x = begin("20 paid");
        x.envoy(0);
        // 50 * 50 without pay; with 3 for the 6th step he gains 63 * 40 by it, and his side has 57.
        due("he is as oneself", x.paid(0, 1, 0), 503);
        x.put(0, 1, SLOPE, 0);
        // Who cares for no step settles 0 by products; what is paid for steps he gains, and 5 is the
        // half of the wood: by PIECE 0 he settles 5 for 1 a step: 45. PIECE 1 .. : (x - 1)(10 - x): 5
        // again, for 4: 46; 2: 6 for 4: 56; 3: 6 for 3: 57; 4: 7 for 3: 67; 5: 7 for 2: 68; 6: 8 for 2: 78;
        // 7: 8 for 1: 79; 8: 9 for 1: 89; 9: no product above 0: 0.
        due("paid for the last steps", x.paid(0, 1, 0), 801);
        due("nothing is changed: PIECE", x.put(0, 1, PIECE, 0), 0);
        due("nothing is changed: PAY", x.put(0, 1, PAY, 0), 0);
        x.envoy(1);
        due("side 1", x.paid(1, 1, 0), 503);
        x.put(1, 1, SLOPE, 0);
        due("all products are 0: the least share is all for side 1", x.paid(1, 1, 0), 0);
        x.put(1, 1, ORDERS, 24);
        due("none settles: the least", x.paid(1, 1, 0), 0);
        x.put(0, 0, SLOPE, 30);
        x.put(0, 1, WALK, 200);
        due("only for 20 he takes all", x.paid(0, 1, 0), 20);
        x.put(0, 1, WALK, 201);
        due("he is not paid 21", x.paid(0, 1, 0), 0);
        due("oneself", x.paid(0, 0, 0), -2);
        due("no such envoy", x.paid(0, 2, 0), -2);
        due("no such j", x.paid(0, 1, 2), -2);
        due("j -1", x.paid(0, 1, -1), -2);
        for (int side : WRONG_SIDES) {
            due("side " + side, x.paid(side, 1, 0), -2);
        }
    }

    private static void hard() {
        HardEnvoys x = begin("21 hard");
        due("all", x.hard(0, 0, 0), 10);
        x.put(1, 0, WALK, 25);
        due("to his walk", x.hard(0, 0, 0), 7);
        x.put(0, 0, ORDERS, 9);
        due("whatever his orders are", x.hard(0, 0, 0), 7);
        due("they stay", x.put(0, 0, ORDERS, 4), 9);
        due("side 1", x.hard(1, 0, 0), 6);
        x.set(0, LOT);
        due("by lot", x.hard(1, 0, 0), 6);
        x.put(0, 0, WALK, 80);
        due("none", x.hard(0, 0, 0), -1);
        x.put(0, 0, WALK, 0);
        x.put(0, 0, ORDERS, 10);
        x.put(1, 0, WALK, 0);
        due("0 at least", x.hard(1, 0, 0), 0);
        due("no such envoy", x.hard(0, 1, 0), -2);
        due("no such j", x.hard(0, 0, 1), -2);
        due("envoy -1", x.hard(0, -1, 0), -2);
        for (int side : WRONG_SIDES) {
            due("side " + side, x.hard(side, 0, 0), -2);
        }
    }

    private static void committee() {
        HardEnvoys x = begin("22 committee");
        for (int number = 1; number <= 3; number++) {
            x.envoy(0);
            x.put(0, number, ORDERS, 5 + number);
        }
        due("oneself", x.committee(1, 1, 0), 5);
        due("one of all", x.committee(15, 1, 0), 5);
        due("two of all", x.committee(15, 2, 0), 6);
        due("three of all", x.committee(15, 3, 0), 7);
        due("all", x.committee(15, 4, 0), 8);
        due("one of the hardest two", x.committee(12, 1, 0), 7);
        x.put(0, 0, WALK, 20);
        due("the walk of oneself", x.committee(2, 1, 0), 6);
        x.put(0, 1, WALK, 200);
        due("a seat that never takes", x.committee(2, 1, 0), -5);
        due("outvoted", x.committee(14, 2, 0), 8);
        x.set(0, RULE);
        tell(x, "w/2");
        due("by rule", x.committee(12, 1, 0), 10);
        tell(x, "l");
        due("the least share", x.committee(12, 1, 0), 7);
        tell(x, "u-(l=8)");
        due("the greatest", x.committee(12, 2, 0), 9);
        x.set(0, LOT);
        x.put(1, 0, WALK, 15);
        due("by lot", x.committee(12, 1, 0), 8);
        due("no seats", x.committee(0, 0, 0), -2);
        due("seats -1", x.committee(-1, 1, 0), -2);
        due("no such seat", x.committee(16, 1, 0), -2);
        due("most seats", x.committee(Integer.MAX_VALUE, 1, 0), -2);
        due("more votes than seats", x.committee(5, 3, 0), -2);
        due("votes 0", x.committee(5, 0, 0), -2);
        due("votes -1", x.committee(5, -1, 0), -2);
        due("no such j", x.committee(1, 1, 1), -2);
        due("j -1", x.committee(1, 1, -1), -2);
    }

    /** A committee may take what oneself would not: his GAIN is then below 0. */
    private static void committeeByOffers() {
        HardEnvoys x = begin("22 committee by offers");
        x.envoy(0);
        x.put(0, 0, WALK, 80);
        x.put(0, 1, WALK, 20);
        x.put(1, 0, WALK, 50);
        // It takes 2 or more, side 1 up to 5: oneself gains -60 .. -30, side 1 30 .. 0.
        due("the greatest product is 0", x.committee(2, 1, 0), 5);
        x.put(1, 0, WALK, 45);
        due("the greatest is below 0", x.committee(2, 1, 0), 5);
        x.set(0, OFFERS);
        due("less than by going on: nothing", x.committee(2, 1, 0), -5);
        x.put(0, 0, WALK, 75);
        x.put(1, 0, SLOPE, 20);
        x.put(1, 0, WALK, 40);
        x.set(1, 3);
        x.set(2, 20);
        // Round 2: 8 (5, 0). Round 1: 0 is left 5 - 20: 6 (-15, 40). Round 0: 1 is left 20: 7.
        due("going on may be below 0", x.committee(2, 1, 0), 7);
        x.set(2, 0);
        due("no delay", x.committee(2, 1, 0), 8);
    }

    private static void recall() {
        HardEnvoys x = begin("23 recall");
        x.envoy(0);
        x.put(0, 0, WALK, 60);
        x.put(0, 1, COST, 50);
        due("settle(1, 0)", x.settle(1, 0), 5);
        due("50 against 60", x.recall(0, 1, 0), 10);
        due("side 1 is content", x.recall(1, 1, 0), 0);
        x.put(0, 1, PAY, 3);
        due("settle(1, 0)", x.settle(1, 0), 5);
        due("and what he is paid", x.recall(0, 1, 0), 25);
        x.put(0, 1, PAY, 0);
        x.put(0, 0, WALK, 50);
        due("as much", x.recall(0, 1, 0), 0);
        x.put(0, 0, WALK, 51);
        due("one less", x.recall(0, 1, 0), 1);
        x.put(0, 1, ORDERS, 11);
        due("nothing is settled", x.recall(0, 1, 0), -3);
        x.put(0, 1, ORDERS, 0);
        x.set(0, LOT);
        due("by lot", x.recall(0, 1, 0), -3);
        due("BAD ahead of NO", x.recall(2, 1, 0), -2);
        due("side -1", x.recall(-1, 1, 0), -2);
        due("no such i", x.recall(0, 2, 0), -2);
        due("no such j", x.recall(0, 1, 1), -2);
    }

    private static void middle() {
        HardEnvoys x = begin("24 middle");
        due("nothing better for both", x.middle(0, 0, -1), 0);
        due("the first of none", x.middle(0, 0, 0), -5);
        x.put(0, 0, MARK, 7);
        x.put(0, 0, BONUS, 40);
        x.envoy(0);
        x.envoy(1);
        x.put(0, 1, BONUS, 0);
        x.put(0, 1, PIECE, 6);
        x.put(0, 1, PAY, 0);
        due("one gains, one loses", x.middle(1, 1, -1), 0);
        // Side 1 pays its man 60 for each step above 3: of 5 steps it has 50 - 120, of 4 40 - 60, of 3 30.
        x.put(1, 1, PIECE, 3);
        x.put(1, 1, PAY, 60);
        x.put(1, 1, SLOPE, 10);
        x.set(0, RULE);
        tell(x, "5");
        due("settle(1, 1)", x.settle(1, 1), 5);
        due("how many", x.middle(1, 1, -1), 5);
        due("the first", x.middle(1, 1, 0), 6);
        due("the last", x.middle(1, 1, 4), 10);
        due("behind it", x.middle(1, 1, 5), -5);
        due("far behind it", x.middle(1, 1, Integer.MAX_VALUE), -5);
        x.put(1, 1, ORDERS, 2);
        due("of those that both take", x.middle(1, 1, -1), 3);
        x.put(0, 1, ORDERS, 9);
        due("nothing settled", x.middle(1, 1, -1), 0);
        x.set(0, LOT);
        due("by lot", x.middle(1, 1, -1), -20);
        due("BAD ahead of NO", x.middle(1, 1, -2), -10);
        x.set(0, PRODUCTS);
        due("what -2", x.middle(1, 1, -2), -10);
        due("no such i", x.middle(2, 1, -1), -10);
        due("no such j", x.middle(1, 2, -1), -10);
    }

    private static void edge() {
        HardEnvoys x = begin("25 edge");
        due("one pair stays a rest", x.edge(0), -1);
        for (int side : WRONG_SIDES) {
            due("side " + side, x.edge(side), -2);
        }
        x = trap("25 edge");
        x.put(0, 1, COST, 12);
        x.put(1, 1, COST, 12);
        due("they go themselves", x.rest(0), 0);
        // A harder man brings a step more, which is worth the SLOPE of oneself, for 12: from 13 he is sent.
        due("a steeper side 0", x.edge(0), 3);
        due("nothing is changed", x.put(0, 0, SLOPE, 10), 10);
        due("a steeper side 1", x.edge(1), 3);
        x.put(0, 1, COST, 45);
        due("30 more are not enough", x.edge(0), -1);
        x.put(0, 1, COST, 40);
        due("like ones stay", x.edge(0), -1);
        x.put(0, 1, COST, 39);
        due("30 more are enough", x.edge(0), 30);
        x.put(0, 0, SLOPE, 60);
        x.put(0, 1, COST, 65);
        due("above the greatest slope that can be put", x.edge(0), 6);
    }

    private static void part() {
        HardEnvoys x = begin("26 part");
        x.set(0, LOT);
        x.lot(2, 6);
        x.put(0, 0, WALK, -50);
        x.put(0, 0, SLOPE, 1);
        x.put(0, 0, COST, 20);
        x.has(0, 0, 0);
        due("part(0)", x.part(0), -50);
        due("part(1)", x.part(1), 3);
        due("part(2)", x.part(2), -1000000);
        due("part(-1)", x.part(-1), -1000000);
        x.put(0, 0, COST, 0);
        x.lot(0, 7);
        x.has(0, 0, 0);
        DUES.fraction("0 is 0 by 1", x, 0, 1);
    }

    private static void count() {
        HardEnvoys x = begin("27 count");
        x.envoy(1);
        x.envoy(1);
        due("count(0)", x.count(0), 1);
        due("count(1)", x.count(1), 3);
        for (int side : WRONG_SIDES) {
            due("count(" + side + ")", x.count(side), -2);
        }
    }

    private static void digest() {
        HardEnvoys x = begin("28 digest");
        due("new", x.digest(), digestOf(10, 1, 1,
                10, 0, 0, 0, 0, 0, 0, 0, 0, 1,
                10, 0, 0, 0, 0, 0, 0, 0, 0, 1,
                0, 2, 0, 1, 2, 0, 0, 1));
        x.steps(7);
        x.envoy(1);
        for (int what = 0; what <= COST; what++) {
            x.put(0, 0, what, 20 - what);
            x.put(1, 1, what, what + 1);
        }
        x.weight(1, 1, 6);
        x.set(0, LOT);
        x.set(1, 5);
        x.set(2, 11);
        x.lot(2, 6);
        tell(x, "l+");
        x.put(1, 0, WALK, -33);
        x.put(0, 0, WALK, 500);
        x.has(0, 0, 0);
        due("changed", x.digest(), digestOf(7, 1, 2,
                20, 19, 18, 17, 500, 15, 14, 13, 12, 1,
                10, 0, 0, 0, -33, 0, 0, 0, 0, 1,
                1, 2, 3, 4, 5, 6, 7, 8, 9, 6,
                2, 5, 11, 2, 6, 2, 'l', '+', 500 - 12, 1));
        long before = x.digest();
        x.rest(-1);
        x.lose(0);
        x.best(0, 0);
        x.paid(1, 1, 0);
        x.hard(1, 1, 0);
        x.edge(0);
        x.edge(1);
        x.committee(1, 1, 0);
        x.settle(0, 1);
        x.steps(0);
        x.write(128);
        x.put(0, 0, SLOPE, 61);
        x.lot(3, 2);
        due("asking changes nothing", x.digest(), before);
    }
}
