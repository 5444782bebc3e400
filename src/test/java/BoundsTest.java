/**
 * Promises 1 to 13, sides, envoys and ways: each sentence that names a boundary case, worked by hand.
 * What range each number of a call has stands in RangesTest.
 */
public final class BoundsTest {
    private static final int SLOPE = 0, MARK = 1, BONUS = 2, HATE = 3, WALK = 4, ORDERS = 5, PIECE = 6,
            PAY = 7, COST = 8;
    private static final int PRODUCTS = 0, OFFERS = 1, LOT = 2, RULE = 3;
    private static final int BAD = -2, FULL = -4, NONE = -1, NOTHING = -5;
    private static final int[] AT_FIRST = {10, 0, 0, 0, 0, 0, 0, 0, 0};
    private static final int[] LEAST = {0, 0, 0, 0, -500, 0, 0, 0, 0};
    private static final int[] MOST = {60, 24, 200, 60, 500, 24, 24, 60, 200};
    private static final Dues DUES = new Dues();

    public static void main(String[] args) {
        atFirst();
        apart();
        lastCall();
        steps();
        envoy();
        put();
        worth();
        takes();
        set();
        lot();
        write();
        erase();
        faultOfFirstAndLater();
        faultOfDigits();
        faultOfOpen();
        faultOfEnds();
        products();
        offers();
        offersOfLikeOnes();
        lots();
        ruleTexts();
        ruleNumbers();
        ruleBlanks();
        nothingInAnyWay();
        round();
        DUES.end();
    }

    private static Run run(String name) {
        return new Run(DUES, name);
    }

    private static void atFirst() {
        Run run = run("1: there are no others at first; N 10, ROUNDS 2, DELAY 0, 1 by 2, weights 1, 0 by 1");
        run.is(1, "count", 0).is(1, "count", 1).fraction(0, 1).is(1, "fault").is(0, "erase");
        run.is(10, "steps", 10).is(0, "set", 0, 0).is(2, "set", 1, 2).is(0, "set", 2, 0);
        for (int side = 0; side <= 1; side++) {
            for (int what = 0; what <= COST; what++) {
                run.is(AT_FIRST[what], "put", side, 0, what, AT_FIRST[what]);
            }
            run.is(1, "weight", side, 0, 1).refuses(-1000, "put", side, 1, 0, 10);
        }
        run.refuses(BAD, "settle", 1, 0).refuses(BAD, "settle", 0, 1);
        run.after("set", 0, LOT).after("steps", 1).has(5, 1, 0, 0, 0);
    }

    private static void apart() {
        Run one = run("1: one object tells nothing to another");
        one.envoys(5, 5).after("steps", 24).after("put", 0, 0, SLOPE, 60).tell("u").after("has", 0, 0, 0);
        Run other = run("1: an object made later");
        other.is(1, "count", 0).is(10, "steps", 10).is(10, "put", 0, 0, SLOPE, 10).is(1, "fault").fraction(0, 1);
        one.is(5, "count", 0).is(24, "steps", 24).is(60, "put", 0, 0, SLOPE, 60).is(NONE, "fault");
    }

    private static void lastCall() {
        Run run = run("1: an object is used for 512 calls");
        for (int call = 1; call <= 510; call++) {
            run.after("steps", 1 + call % 24);
        }
        // The 510th left 1 + 510 % 24.
        run.is(7, "steps", 10).is(5, "settle", 0, 0);
    }

    private static void steps() {
        Run run = run("2: N 1 .. 24, a SHARE 0 .. N");
        run.refuses(BAD, "steps", 0).refuses(BAD, "steps", 25).is(10, "steps", 1);
        run.refuses(BAD, "steps", 0).is(1, "steps", 1).is(1, "steps", 24);
        run.refuses(BAD, "steps", 25).is(24, "steps", 24);
        run.after("put", 0, 0, ORDERS, 24).is(24, "settle", 0, 0).is(24, "steps", 23).is(NOTHING, "settle", 0, 0);
        run.after("put", 0, 0, ORDERS, 0).after("put", 1, 0, ORDERS, 24).is(NOTHING, "settle", 0, 0);
        run.is(23, "steps", 24).is(0, "settle", 0, 0).is(24, "steps", 1);
        run.after("put", 1, 0, ORDERS, 1).is(0, "settle", 0, 0).after("put", 1, 0, ORDERS, 0);
        run.after("put", 0, 0, ORDERS, 1).is(1, "settle", 0, 0);
        run.after("put", 0, 0, ORDERS, 2).is(NOTHING, "settle", 0, 0);
    }

    private static void envoy() {
        Run run = run("3: ENVOYS 0 .. 4; as oneself is now, but COST 0; FULL: 5");
        for (int what = 0; what <= COST; what++) {
            run.after("put", 0, 0, what, MOST[what]).after("put", 1, 0, what, LEAST[what]);
        }
        run.is(1, "envoy", 0).is(1, "envoy", 1);
        for (int what = 0; what < COST; what++) {
            run.is(MOST[what], "put", 0, 1, what, MOST[what]).is(LEAST[what], "put", 1, 1, what, LEAST[what]);
        }
        run.is(0, "put", 0, 1, COST, 7).is(0, "put", 1, 1, COST, 8).is(200, "put", 0, 0, COST, 200);
        run.is(2, "envoy", 0).is(0, "put", 0, 2, COST, 0).is(3, "envoy", 0).refuses(-1000, "put", 0, 4, 0, 0);
        run.is(4, "envoy", 0).is(60, "put", 0, 4, SLOPE, 1).is(5, "count", 0);
        run.refuses(FULL, "envoy", 0).refuses(FULL, "envoy", 0).is(5, "count", 0).is(2, "count", 1);
        run.refuses(-1000, "put", 0, 5, 0, 0).refuses(BAD, "weight", 0, 5, 1);
        run.is(2, "envoy", 1).refuses(BAD, "envoy", 2).refuses(BAD, "envoy", -1);
        run.is(3, "envoy", 1).is(4, "envoy", 1).refuses(FULL, "envoy", 1).refuses(BAD, "envoy", 2);
        run.is(7, "put", 0, 1, COST, 0).is(8, "put", 1, 1, COST, 0);
    }

    private static void put() {
        Run run = run("4: the nine numbers of one ENVOY, each in its range, what it was");
        run.envoys(5, 5);
        for (int what = 0; what <= COST; what++) {
            run.after("put", 1, 4, what, LEAST[what]);
            run.refuses(-1000, "put", 1, 4, what, LEAST[what] - 1).is(LEAST[what], "put", 1, 4, what, MOST[what]);
            run.refuses(-1000, "put", 1, 4, what, MOST[what] + 1).is(MOST[what], "put", 1, 4, what, LEAST[what]);
        }
        run.is(0, "put", 1, 4, WALK - 1, 0).is(-500, "put", 1, 4, WALK, -499).is(-499, "put", 1, 4, WALK, 499);
        for (int envoy = 0; envoy < 4; envoy++) {
            run.is(0, "put", 1, envoy, WALK, 0).is(10, "put", 1, envoy, SLOPE, 10);
        }
        run.is(10, "put", 0, 4, SLOPE, 10).is(0, "put", 0, 4, WALK, 0);
    }

    private static void worth() {
        Run run = run("5: BONUS if k is MARK or more");
        run.after("put", 0, 0, BONUS, 200).is(200, "worth", 0, 0, 0).after("put", 0, 0, MARK, 1);
        run.is(0, "worth", 0, 0, 0).is(210, "worth", 0, 0, 1).after("put", 0, 0, MARK, 10);
        run.is(90, "worth", 0, 0, 9).is(300, "worth", 0, 0, 10).after("put", 0, 0, MARK, 11);
        run.is(100, "worth", 0, 0, 10).after("steps", 11).is(310, "worth", 0, 0, 11);
        run.after("put", 0, 0, MARK, 24).after("steps", 24).is(230, "worth", 0, 0, 23).is(440, "worth", 0, 0, 24);

        run = run("5: less HATE for each step the other side has");
        run.after("put", 1, 0, HATE, 60).is(-600, "worth", 1, 0, 0).is(30, "worth", 1, 0, 9).is(100, "worth", 1, 0, 10);
        run.after("steps", 1).is(-60, "worth", 1, 0, 0).is(10, "worth", 1, 0, 1);
        run.after("steps", 24).is(-1440, "worth", 1, 0, 0).is(-1370, "worth", 1, 0, 1);

        run = run("5: PAY for each of k above PIECE");
        run.after("put", 0, 0, PAY, 60).is(0, "worth", 0, 0, 0).is(70, "worth", 0, 0, 1).is(700, "worth", 0, 0, 10);
        run.after("put", 0, 0, PIECE, 9).is(90, "worth", 0, 0, 9).is(160, "worth", 0, 0, 10);
        run.after("put", 0, 0, PIECE, 10).is(100, "worth", 0, 0, 10);
        run.after("put", 0, 0, PIECE, 24).is(0, "worth", 0, 0, 0).is(100, "worth", 0, 0, 10);

        run = run("5: the greatest WORTH; OWN steps 0 .. N");
        run.after("steps", 24).after("put", 0, 0, SLOPE, 60).after("put", 0, 0, BONUS, 200).after("put", 0, 0, PAY, 60);
        run.is(3080, "worth", 0, 0, 24).refuses(-100000, "worth", 0, 0, 25).refuses(-100000, "worth", 0, 0, -1);
        run.after("steps", 23).refuses(-100000, "worth", 0, 0, 24).is(2960, "worth", 0, 0, 23);
    }

    private static void takes() {
        Run run = run("6: k is ORDERS or more");
        run.after("put", 0, 0, ORDERS, 1).is(0, "takes", 0, 0, 0).is(1, "takes", 0, 0, 1);
        run.after("put", 0, 0, ORDERS, 10).is(0, "takes", 0, 0, 9).is(1, "takes", 0, 0, 10);
        run.after("put", 0, 0, ORDERS, 11).is(0, "takes", 0, 0, 10).after("put", 0, 0, ORDERS, 24).after("steps", 24);
        run.is(0, "takes", 0, 0, 23).is(1, "takes", 0, 0, 24);

        run = run("6: the WORTH of it is WALK or more");
        run.is(1, "takes", 0, 0, 0).after("put", 0, 0, WALK, 1).is(0, "takes", 0, 0, 0).is(1, "takes", 0, 0, 1);
        run.after("put", 0, 0, WALK, 10).is(1, "takes", 0, 0, 1).after("put", 0, 0, WALK, 11).is(0, "takes", 0, 0, 1);
        run.after("put", 0, 0, WALK, 500).after("put", 0, 0, SLOPE, 50).is(0, "takes", 0, 0, 9).is(1, "takes", 0, 0, 10);
        run.after("put", 0, 0, SLOPE, 0).after("put", 0, 0, HATE, 50).after("put", 0, 0, WALK, -500);
        run.is(1, "takes", 0, 0, 0).after("put", 0, 0, WALK, -499).is(0, "takes", 0, 0, 0).is(1, "takes", 0, 0, 1);
        run.refuses(BAD, "takes", 0, 0, -1).refuses(BAD, "takes", 0, 0, 11);

        run = run("6: both ORDERS and WALK");
        run.after("put", 0, 0, ORDERS, 4).after("put", 0, 0, WALK, 50).is(0, "takes", 0, 0, 4).is(1, "takes", 0, 0, 5);
        run.after("put", 0, 0, ORDERS, 6).is(0, "takes", 0, 0, 5).is(1, "takes", 0, 0, 6);
    }

    private static void set() {
        Run run = run("7: WAYS 0 .. 3, ROUNDS 1 .. 9, DELAY 0 .. 50: what it was");
        run.is(0, "set", 0, 3).refuses(BAD, "set", 0, 4).refuses(BAD, "set", 0, -1).is(3, "set", 0, 0);
        run.is(2, "set", 1, 1).refuses(BAD, "set", 1, 0).is(1, "set", 1, 9).refuses(BAD, "set", 1, 10);
        run.is(0, "set", 2, 50).refuses(BAD, "set", 2, 51).is(50, "set", 2, 0).refuses(BAD, "set", 2, -1);
        run.refuses(BAD, "set", 3, 1).refuses(BAD, "set", -1, 1);
        run.is(0, "set", 0, 0).is(9, "set", 1, 9).is(0, "set", 2, 0);
    }

    private static void lot() {
        Run run = run("8: 0 <= a <= b, 1 <= b <= 9");
        run.after("set", 0, LOT).refuses(BAD, "lot", 0, 0).refuses(BAD, "lot", 1, 0).refuses(BAD, "lot", -1, -1);
        run.is(1, "lot", 0, 1).has(0, 1, 0, 0, 0).has(100, 1, 1, 0, 0);
        run.refuses(BAD, "lot", -1, 1).refuses(BAD, "lot", 2, 1).is(1, "lot", 1, 1).has(100, 1, 0, 0, 0);
        run.is(1, "lot", 0, 9).has(0, 1, 0, 0, 0).is(1, "lot", 1, 9).has(100, 9, 0, 0, 0).has(800, 9, 1, 0, 0);
        run.is(1, "lot", 8, 9).has(800, 9, 0, 0, 0).is(1, "lot", 9, 9).has(100, 1, 0, 0, 0).has(0, 1, 1, 0, 0);
        run.refuses(BAD, "lot", 10, 9).refuses(BAD, "lot", 10, 10).refuses(BAD, "lot", 0, 10).has(100, 1, 0, 0, 0);
    }

    private static void write() {
        Run run = run("9: characters 0 .. 127, FULL: 40");
        run.refuses(BAD, "write", -1).refuses(BAD, "write", 128).is(1, "write", 0).is(2, "write", 127).is(2, "erase");
        for (int length = 1; length <= 39; length++) {
            run.is(length, "write", ' ');
        }
        run.is(391, "fault").is(40, "write", 'u').is(NONE, "fault").after("set", 0, RULE).is(10, "settle", 0, 0);
        run.refuses(FULL, "write", '+').refuses(FULL, "write", 0).refuses(FULL, "write", 127);
        run.refuses(BAD, "write", 128).refuses(BAD, "write", -1).is(NONE, "fault").is(10, "settle", 0, 0);
        run.is(40, "erase").is(1, "write", 'l').is(0, "settle", 0, 0);
    }

    private static void erase() {
        Run run = run("10: it is empty: how many");
        run.is(0, "erase").is(1, "fault").is(1, "write", 'u').is(NONE, "fault").is(1, "erase").is(1, "fault");
        run.is(0, "erase").tell("(((((((((").is(83, "fault").is(9, "erase").is(1, "write", 'n').is(NONE, "fault");
        Run other = run("10: a text that was erased leaves nothing");
        long before = other.call("digest");
        other.tell("1234567").after("erase");
        DUES.due("digest() of an empty text", other.call("digest"), before);
    }

    private static void faultOf(String text, int want) {
        DUES.due("fault of '" + text + "'", new Run(DUES, "11: FAULT").tell(text).call("fault"), want);
    }

    /** Each of the 128 characters: first, behind a unit, behind a comparison, behind a sign, in ( ). */
    private static void faultOfFirstAndLater() {
        for (char c = 0; c < 128; c++) {
            boolean unit = "0123456789lunwv".indexOf(c) >= 0;
            boolean ahead = "(!- ".indexOf(c) >= 0;
            boolean joint = "+-*/&|".indexOf(c) >= 0;
            boolean compared = "<>=".indexOf(c) >= 0;
            boolean blank = c == ' ';
            faultOf("" + c, unit ? NONE : ahead ? 11 : 1);
            faultOf("l" + c, blank ? NONE : joint || compared ? 21 : 11);
            faultOf("l<u" + c, blank ? NONE : joint ? 41 : 31);
            faultOf("l<u&n" + c, blank ? NONE : joint || compared ? 61 : 51);
            faultOf("l*" + c, unit ? NONE : ahead ? 31 : 21);
            faultOf("!" + c, unit ? NONE : ahead ? 21 : 11);
            faultOf("(" + c, unit || ahead ? 21 : 11);
            faultOf("(l" + c, c == ')' ? NONE : blank || joint || compared ? 31 : 21);
            faultOf("(l)" + c, blank ? NONE : joint || compared ? 41 : 31);
            faultOf("7" + c, blank || c >= '0' && c <= '9' ? NONE : joint || compared ? 21 : 11);
        }
    }

    private static void faultOfDigits() {
        faultOf("0", NONE);
        faultOf("123456", NONE);
        faultOf("000000", NONE);
        faultOf("1234567", 2);
        faultOf("0000000", 2);
        faultOf("12345678901", 2);
        faultOf(" 1234567", 12);
        faultOf("1234567+", 2);
        faultOf("123456+123456+123456", NONE);
        faultOf("123456+1234567", 72);
        faultOf("123456 7", 71);
        faultOf("1234567 (", 2);
        faultOf("l1234567", 11);
        faultOf("z1234567", 1);
        faultOf("1234567z", 2);
    }

    private static void faultOfOpen() {
        faultOf("((((((((1))))))))", NONE);
        faultOf("(((((((((1)))))))))", 83);
        faultOf("(((((((((", 83);
        faultOf("((((((((", 81);
        faultOf("((((((((-(", 93);
        faultOf("(((((((1)+(2)))))))", NONE);
        faultOf("((((((((1)+(2))))))))", NONE);
        faultOf("((((((((1+(2)))))))))", 103);
        faultOf("(1)+(1)+(1)+(1)+(1)+(1)+(1)+(1)+(1)+(1)", NONE);
        faultOf("((((((((1(", 91);
        faultOf("((((((((1))))))))+((((((((1))))))))", NONE);
        faultOf("((((((((1))))))))+(((((((((1", 263);
        faultOf("(((((((( 1234567", 92);
        faultOf("(((((((((1234567", 83);
        faultOf("((((((((1)))))))))", 171);
    }

    /** The last place, 39, and the length, 40, of the longest text; the length of shorter ones. */
    private static void faultOfEnds() {
        String signs = "-".repeat(39);
        faultOf("", 1);
        faultOf(" ", 11);
        faultOf(" ".repeat(40), 401);
        faultOf("l" + " ".repeat(39), NONE);
        faultOf(signs + "l", NONE);
        faultOf(signs + "z", 391);
        faultOf(signs + "-", 401);
        faultOf(signs + "(", 401);
        faultOf("(".repeat(8) + "-".repeat(31) + "(", 393);
        faultOf("(".repeat(8) + "-".repeat(31) + "l", 401);
        faultOf("-".repeat(33) + "1234567", 332);
        faultOf("-".repeat(34) + "123456", NONE);
        faultOf("l+".repeat(20), 401);
        faultOf("l+".repeat(19) + "l ", NONE);
        faultOf("1+".repeat(19) + "1)", 391);
        faultOf("(l+u)", NONE);
        faultOf("(l+u", 41);
        faultOf("(l+", 31);
        faultOf("(l+)", 31);
        faultOf("l+u)", 31);
        faultOf("l|", 21);
        faultOf("l&&u", 21);
        faultOf("1<2<3", 31);
        faultOf("1<2|3<4<5", 71);
        faultOf("(1<2)<(3<4)", NONE);
    }

    private static void products() {
        Run run = run("12: the greatest product of GAINS, of like ones the least");
        run.after("steps", 1).is(0, "settle", 0, 0).after("steps", 2).is(1, "settle", 0, 0);
        run.after("steps", 3).is(1, "settle", 0, 0).after("steps", 24).is(12, "settle", 0, 0);
        run.after("steps", 23).is(11, "settle", 0, 0).after("steps", 10);
        run.after("put", 1, 0, SLOPE, 0).is(0, "settle", 0, 0).after("put", 0, 0, ORDERS, 3).is(3, "settle", 0, 0);
        run.after("put", 0, 0, ORDERS, 0).after("put", 1, 0, WALK, -1).is(10, "settle", 0, 0);

        run = run("12: one SHARE that both TAKE, and none");
        run.after("put", 0, 0, WALK, 40).after("put", 1, 0, WALK, 60).is(4, "settle", 0, 0);
        run.after("put", 0, 0, WALK, 41).is(NOTHING, "settle", 0, 0).after("put", 0, 0, WALK, 40);
        run.after("put", 1, 0, WALK, 61).is(NOTHING, "settle", 0, 0);
        run.after("put", 1, 0, WALK, 0).after("put", 0, 0, WALK, 100).is(10, "settle", 0, 0);
        run.after("put", 0, 0, WALK, 101).is(NOTHING, "settle", 0, 0);
        run.after("put", 0, 0, WALK, 0).after("put", 1, 0, WALK, 100).is(0, "settle", 0, 0);
        run.after("put", 1, 0, WALK, 101).is(NOTHING, "settle", 0, 0);
        run.after("put", 1, 0, WALK, 0).after("put", 0, 0, ORDERS, 4).after("put", 1, 0, ORDERS, 6).is(4, "settle", 0, 0);
        run.after("put", 1, 0, ORDERS, 7).is(NOTHING, "settle", 0, 0);
        run.refuses(BAD, "settle", 0, 1).refuses(BAD, "settle", 1, 0).keeps(NOTHING, "settle", 0, 0);
    }

    private static void offers() {
        Run run = run("12: ROUNDS 1 .. 9; behind the last round: 0");
        run.after("set", 0, OFFERS).after("set", 1, 1).is(10, "settle", 0, 0);
        run.after("put", 1, 0, WALK, 10).is(9, "settle", 0, 0).after("put", 1, 0, WALK, 11).is(8, "settle", 0, 0);
        run.after("put", 1, 0, WALK, 0);
        for (int rounds = 1; rounds <= 9; rounds++) {
            run.after("set", 1, rounds).is(rounds % 2 == 1 ? 10 : 0, "settle", 0, 0).is(0, "round", 0, 0);
        }

        run = run("12: no less GAIN than by going on, less DELAY");
        run.after("set", 0, OFFERS).is(0, "settle", 0, 0);
        int[] delays = {0, 1, 9, 10, 11, 19, 20, 49, 50};
        int[] shares = {0, 0, 0, 1, 1, 1, 2, 4, 5};
        for (int at = 0; at < delays.length; at++) {
            run.after("set", 2, delays[at]).is(shares[at], "settle", 0, 0).is(0, "round", 0, 0);
        }
        // Round 2: 10 (100, 0). Round 1: 0 is left 100 less DELAY. Round 0: 1 is left its GAIN less DELAY.
        run.after("set", 1, 3).after("put", 1, 0, SLOPE, 30).after("set", 2, 9).is(10, "settle", 0, 0);
        run.after("set", 2, 10).is(9, "settle", 0, 0).after("set", 2, 20).is(8, "settle", 0, 0);
        // Back from the last round, offered by 0: 10, 7, 8, 5, 6, 3, 4, 1, 2, where each is left just so much.
        run.after("set", 2, 30);
        for (int rounds = 1; rounds <= 9; rounds += 2) {
            run.after("set", 1, rounds).is(11 - rounds, "settle", 0, 0);
        }

        run = run("12: if that is no less than his own by going on");
        // Round 1: 0 (0, 100). Round 0: only 0 leaves 100 to 1; 0 has as much by going on, and offers it.
        run.after("set", 0, OFFERS).is(0, "settle", 0, 0).is(0, "round", 0, 0);
        run.after("put", 0, 0, WALK, -500).is(0, "settle", 0, 0).is(0, "round", 0, 0);
        run.after("put", 0, 0, WALK, 0).after("put", 0, 0, ORDERS, 10).is(10, "settle", 0, 0).is(0, "round", 0, 0);
    }

    private static void offersOfLikeOnes() {
        Run run = run("12: by OFFERS, of like ones the least SHARE");
        run.after("set", 0, OFFERS).after("set", 1, 1).after("put", 0, 0, SLOPE, 0).is(0, "settle", 0, 0);
        run.after("put", 0, 0, ORDERS, 3).is(3, "settle", 0, 0);
        run.after("set", 1, 2).after("put", 1, 0, SLOPE, 0).is(3, "settle", 0, 0);
        run.after("put", 0, 0, ORDERS, 0).is(0, "settle", 0, 0);
        // 1 cares for nothing; 0 has all in round 0, whatever comes behind it.
        run.after("put", 0, 0, SLOPE, 1).is(10, "settle", 0, 0);
        run.after("put", 1, 0, ORDERS, 1).is(9, "settle", 0, 0);
    }

    private static void lots() {
        Run run = run("12: by LOT the most GAIN for who speaks, of like ones the least; the SHARE is of 0");
        run.after("set", 0, LOT).is(10, "settle", 0, 0).after("lot", 0, 9).is(10, "settle", 0, 0);
        run.after("put", 0, 0, SLOPE, 0).is(0, "settle", 0, 0).after("put", 0, 0, ORDERS, 2).is(2, "settle", 0, 0);
        run.after("put", 0, 0, ORDERS, 0).after("put", 0, 0, MARK, 4).after("put", 0, 0, BONUS, 1).is(4, "settle", 0, 0);
        // 1 speaks, who cares for nothing: of like ones the least SHARE, by which side 1 has all.
        run = run("12: by LOT, 1 speaking, of like ones the least");
        run.after("set", 0, LOT).after("lot", 0, 1).after("envoy", 1).after("put", 1, 1, SLOPE, 0);
        run.has(100, 1, 1, 0, 1).has(0, 1, 0, 0, 1).after("put", 0, 0, ORDERS, 4).has(60, 1, 1, 0, 1);
        run.after("put", 1, 1, ORDERS, 7).is(NOTHING, "settle", 0, 1).has(0, 1, 1, 0, 1);
    }

    private static void ruled(int want, String text) {
        Run run = new Run(DUES, "12: RULE '" + text + "'");
        run.after("set", 0, RULE).after("put", 0, 0, WALK, 20).after("put", 1, 0, WALK, 10).tell(text);
        run.is(want, "settle", 0, 0);
    }

    /** Both take 2 .. 9 of 10, so l is 2 and u is 9; w is 20 and v is 10. */
    private static void ruleTexts() {
        ruled(2, "");
        ruled(2, " ");
        ruled(2, "u+");
        ruled(2, "9)");
        ruled(2, "9999999");
        ruled(2, "(((((((((9)))))))))");
        ruled(9, "((((((((9))))))))");
        ruled(9, "999999");
        ruled(5, "000005");
        ruled(2, "0");
        ruled(2, "1");
        ruled(2, "2");
        ruled(3, "3");
        ruled(8, "8");
        ruled(9, "9");
        ruled(9, "10");
        ruled(2, "-1");
        ruled(2, "-999999*999999*999999");
        ruled(9, "-".repeat(38) + "9");
        ruled(2, "-".repeat(39) + "9");
        ruled(4, "1+".repeat(3) + "1" + " ".repeat(33));
        ruled(2, "(l=2)*(u=9)*(n=10)*(w=20)*(v=10)*1");
        ruled(7, "(l=2)*(u=9)*(n=10)*(w=20)*(v=10)*7");
    }

    private static void ruleNumbers() {
        // By 0 is 0; cut toward 0, on either side of it.
        ruled(5, "5+7/0");
        ruled(5, "5+0/0");
        ruled(5, "5-7/(l-2)*3");
        ruled(8, "5+7/2");
        ruled(2, "5+-7/2");
        ruled(2, "5+7/-2");
        ruled(8, "5+-7/-2");
        ruled(5, "5+1/2");
        ruled(5, "5+-1/2");
        // Not 0 is a truth, below 0 too; a truth is 1 or 0.
        ruled(4, "3+(7&-7)");
        ruled(4, "3+(-1&1)");
        ruled(4, "3+(1&-1)");
        ruled(4, "3+(-1|0)");
        ruled(3, "3+(7&0)");
        ruled(3, "3+(0&7)");
        ruled(4, "3+(0|-7)");
        ruled(3, "3+(0|0)");
        ruled(3, "3+!-7");
        ruled(4, "3+!0");
        ruled(4, "3+!!7");
        ruled(4, "3+(1<2)");
        ruled(3, "3+(2<2)");
        ruled(3, "3+(3<2)");
        ruled(4, "3+(3>2)");
        ruled(3, "3+(2>2)");
        ruled(4, "3+(2=2)");
        ruled(3, "3+(2=-2)");
        // Longs wrap: 2 ^ 63 is the least long, one less than it the greatest; 2 ^ 64 is 0.
        String least = "32768*262144*262144*4096";
        ruled(2, least);
        ruled(9, least + "-1");
        ruled(2, least + "-1+1");
        ruled(2, "-(" + least + ")");
        ruled(2, least + "/-1");
        ruled(2, least + "/1");
        ruled(5, "5+" + least + "*2");
        ruled(2, "1-(" + least + "+1)");
        ruled(9, "-(1+" + least + ")");
        ruled(9, "0-" + least + "-1");
    }

    private static void ruleBlanks() {
        ruled(5, " ( l + u ) / 2 ");
        ruled(5, "5 ");
        ruled(5, "     5");
        ruled(3, "3 + ! - 7");
        ruled(4, "3+( 1 < 2 & 3 = 3 | 0 )");
        ruled(2, "1 0");
        ruled(2, "9 9");
        ruled(2, "\t9");
        ruled(2, "9\n");
    }

    private static void nothingInAnyWay() {
        for (int way = PRODUCTS; way <= RULE; way++) {
            Run run = run("12: no SHARE that both TAKE: nothing is settled, WAY " + way);
            run.after("set", 0, way).tell("u").after("put", 0, 0, ORDERS, 5).after("put", 1, 0, ORDERS, 5);
            run.is(5, "settle", 0, 0).after("put", 1, 0, ORDERS, 6).keeps(NOTHING, "settle", 0, 0);
            run.is(NONE, "round", 0, 0).is(1, "lose", 1).has(0, 1, 0, 0, 0);
            run.after("put", 0, 0, WALK, -7).after("put", 0, 0, COST, 200).has(-207, 1, 0, 0, 0).has(0, 1, 1, 0, 0);
        }
    }

    private static void round() {
        Run run = run("13: in which round, by OFFERS; NONE: nothing, another WAY");
        run.envoys(5, 5).is(NONE, "round", 0, 0).is(0, "set", 0, OFFERS).is(0, "round", 0, 0).is(0, "round", 4, 4);
        run.refuses(BAD, "round", 5, 4).refuses(BAD, "round", 4, 5).refuses(BAD, "round", -1, 0);
        run.refuses(BAD, "round", 0, -1).after("set", 1, 1).keeps(0, "round", 0, 0).after("set", 1, 9);
        run.is(0, "round", 0, 0).after("put", 0, 0, WALK, 100).is(0, "round", 0, 0);
        run.after("put", 0, 0, WALK, 101).is(NONE, "round", 0, 0).is(0, "round", 1, 0);
        run.after("put", 0, 0, WALK, 0).after("set", 0, LOT).is(NONE, "round", 0, 0);
        run.after("set", 0, RULE).is(NONE, "round", 0, 0).after("set", 0, PRODUCTS).keeps(NONE, "round", 0, 0);
        run.refuses(BAD, "round", 5, 0);
    }
}
