/**
 * Promises 14 to 28, who is sent: each sentence that names a boundary case, worked by hand. What range
 * each number of a call has stands in RangesTest.
 */
public final class SentBoundsTest {
    private static final int SLOPE = 0, MARK = 1, BONUS = 2, HATE = 3, WALK = 4, ORDERS = 5, PIECE = 6,
            PAY = 7, COST = 8;
    private static final int PRODUCTS = 0, OFFERS = 1, LOT = 2, RULE = 3;
    private static final int BAD = -2, NO = -3, NONE = -1, NOTHING = -5;
    private static final int MAX = Integer.MAX_VALUE, MIN = Integer.MIN_VALUE;
    private static final int[] LEAST = {0, 0, 0, 0, -500, 0, 0, 0, 0};
    private static final int[] MOST = {60, 24, 200, 60, 500, 24, 24, 60, 200};
    private static final Dues DUES = new Dues();

    public static void main(String[] args) {
        has();
        hasNothing();
        hasByLot();
        best();
        rest();
        restOfUnlikeMany();
        restByLot();
        restNone();
        lose();
        loseOfUnlikeWorths();
        nothing();
        weight();
        thought();
        thoughtNone();
        paidPieces();
        paidPays();
        hard();
        committeeSeats();
        committeeOffers();
        recall();
        middle();
        middleMore();
        edge();
        edgeOfHimself();
        edgeNone();
        part();
        count();
        digest();
        DUES.end();
    }

    private static Run run(String name) {
        return new Run(DUES, name);
    }

    /** Each gains a step by a harder man, who costs 5: 50 and 50, 55 and 40, 40 and 55, 45 and 45. */
    private static Run trap(String name) {
        Run run = run(name).envoys(2, 2);
        for (int side = 0; side <= 1; side++) {
            run.after("put", side, 1, WALK, 20).after("put", side, 1, COST, 5);
        }
        return run;
    }

    /**
     * Side 0 itself: ORDERS 6, COST 12; side 1's man: WALK 40, COST 12. Settled are 6, 6; 5, 3. Side 0 has
     * 48, 48; 50, 30, side 1 40, 28; 50, 58: whoever is sent, one had better sent the other.
     */
    private static Run chase(String name) {
        Run run = run(name).envoys(2, 2).after("put", 0, 0, ORDERS, 6).after("put", 0, 0, COST, 12);
        return run.after("put", 1, 1, WALK, 40).after("put", 1, 1, COST, 12);
    }

    private static void has() {
        Run run = run("14: less COST, less his PAY for each step above his PIECE").envoys(2, 1);
        run.after("put", 0, 1, ORDERS, 6).after("put", 1, 0, ORDERS, 4).is(6, "settle", 1, 0).has(60, 1, 0, 1, 0);
        run.after("put", 0, 1, PAY, 60).has(60 - 360, 1, 0, 1, 0).after("put", 0, 1, PIECE, 5).has(0, 1, 0, 1, 0);
        run.after("put", 0, 1, PIECE, 6).has(60, 1, 0, 1, 0).after("put", 0, 1, PIECE, 24).has(60, 1, 0, 1, 0);
        run.after("put", 0, 1, COST, 200).has(-140, 1, 0, 1, 0).has(40, 1, 1, 1, 0);
        run.after("put", 0, 0, MARK, 6).after("put", 0, 0, BONUS, 9).has(-131, 1, 0, 1, 0);
        run.after("put", 0, 0, MARK, 7).has(-140, 1, 0, 1, 0).after("put", 0, 0, HATE, 1).has(-144, 1, 0, 1, 0);
        run.refuses(BAD, "has", 2, 1, 0).refuses(BAD, "has", -1, 1, 0).refuses(BAD, "has", 0, 2, 0);
        run.refuses(BAD, "has", 0, 0, 1).refuses(BAD, "has", 0, -1, 0).refuses(BAD, "has", 0, 0, -1).fraction(-144, 1);

        run = run("14: oneself is paid and pays").after("put", 0, 0, ORDERS, 6).after("put", 1, 0, ORDERS, 4);
        run.after("put", 0, 0, PAY, 7).after("put", 0, 0, PIECE, 4).is(74, "worth", 0, 0, 6).has(60, 1, 0, 0, 0);

        run = run("14: the least and the greatest that a SIDE HAS").after("steps", 24).envoys(2, 1);
        run.after("put", 0, 1, ORDERS, 24).after("put", 0, 0, SLOPE, 60).after("put", 0, 0, BONUS, 200);
        run.after("put", 0, 0, PAY, 60).has(3080, 1, 0, 1, 0).has(0, 1, 1, 1, 0);
        run.after("put", 0, 0, SLOPE, 0).after("put", 0, 0, BONUS, 0).after("put", 0, 0, PAY, 0);
        run.after("put", 0, 1, PAY, 60).after("put", 0, 1, COST, 200).has(-1640, 1, 0, 1, 0);
    }

    private static void hasNothing() {
        Run run = run("14: if nothing is settled: oneself's WALK, less COST").envoys(2, 2);
        run.after("put", 0, 1, ORDERS, 11).after("put", 0, 1, WALK, 33).after("put", 0, 1, PAY, 9);
        run.is(NOTHING, "settle", 1, 0).has(0, 1, 0, 1, 0).after("put", 0, 0, WALK, 500).has(500, 1, 0, 1, 0);
        run.after("put", 0, 0, WALK, -500).after("put", 0, 1, COST, 200).has(-700, 1, 0, 1, 0);
        run.after("put", 1, 0, WALK, 4).after("put", 1, 0, COST, 1).after("put", 1, 1, COST, 3);
        run.has(3, 1, 1, 1, 0).has(1, 1, 1, 1, 1);
    }

    private static void hasByLot() {
        Run run = run("14: by LOT the mean, a fraction in lowest terms, below above 0");
        run.after("set", 0, LOT).after("lot", 4, 8).has(50, 1, 0, 0, 0).after("lot", 3, 9).has(100, 3, 0, 0, 0);
        run.has(200, 3, 1, 0, 0).after("put", 0, 0, COST, 200).has(-500, 3, 0, 0, 0);
        run.after("put", 0, 0, COST, 100).after("lot", 9, 9).has(0, 1, 0, 0, 0).after("lot", 0, 9).has(-100, 1, 0, 0, 0);
        run.after("lot", 1, 7).has(-600, 7, 0, 0, 0).after("put", 0, 0, ORDERS, 11).has(-100, 1, 0, 0, 0);
        run.after("put", 0, 0, COST, 0).has(0, 1, 0, 0, 0);
    }

    private static void best() {
        Run run = run("15: of like ones the least ENVOY").envoys(5, 5);
        for (int j = 0; j <= 4; j++) {
            run.is(0, "best", 0, j).is(0, "best", 1, j);
        }
        run.after("put", 0, 0, COST, 1).is(1, "best", 0, 0).after("put", 0, 1, COST, 1).is(2, "best", 0, 0);
        run.after("put", 0, 2, COST, 1).after("put", 0, 3, COST, 1).is(4, "best", 0, 4).after("put", 0, 4, COST, 1);
        run.is(0, "best", 0, 4).refuses(BAD, "best", 0, 5).refuses(BAD, "best", 1, 5).refuses(BAD, "best", 0, -1);
        run.refuses(BAD, "best", 2, 0).refuses(BAD, "best", -1, 0).keeps(0, "best", 1, 4);

        run = run("15: ENVOY j is of the other one").envoys(1, 2).is(0, "best", 0, 1).refuses(BAD, "best", 1, 1);
        run.is(0, "best", 1, 0);
        // 1 by 3 of 100 and 2 by 3 of 0, or of 10 for COST: 20 by 3 are more than 6, less than 7.
        run = run("15: by LOT a fraction more").envoys(2, 1).after("set", 0, LOT).after("lot", 1, 3);
        run.after("put", 0, 1, ORDERS, 1).after("put", 0, 1, COST, 6).is(1, "best", 0, 0);
        run.after("put", 0, 1, COST, 7).is(0, "best", 0, 0);
    }

    private static void rest() {
        Run run = run("16: no less than by any other, in order by i, then j").envoys(5, 5);
        run.keeps(25, "rest", NONE);
        for (int what = 0; what < 25; what++) {
            run.is(10 * (what / 5) + what % 5, "rest", what);
        }
        run.keeps(NOTHING, "rest", 25).is(NOTHING, "rest", MAX).refuses(-10, "rest", -2).refuses(-10, "rest", MIN);
        run.after("put", 0, 2, COST, 1).is(20, "rest", NONE).is(30, "rest", 10).is(44, "rest", 19);
        run.is(NOTHING, "rest", 20).after("put", 1, 4, COST, 1).is(16, "rest", NONE).is(43, "rest", 15);

        run = run("16: one pair").is(1, "rest", NONE).is(0, "rest", 0).is(NOTHING, "rest", 1);
        // Who is sent in vain HAS as much as another who settles nothing.
        run = run("16: all settle nothing").after("put", 0, 0, ORDERS, 11).envoys(2, 2).is(4, "rest", NONE);
    }

    private static void restOfUnlikeMany() {
        Run run = run("16: one SIDE has five, the other one").envoys(5, 1).is(5, "rest", NONE).is(40, "rest", 4);
        run.is(NOTHING, "rest", 5).after("put", 0, 4, COST, 1).is(4, "rest", NONE).is(30, "rest", 3);
        run.after("put", 0, 4, ORDERS, 11).is(1, "lose", 1).after("put", 0, 0, COST, 1).is(10, "rest", 0);
        run = run("16: one SIDE has one, the other five").envoys(1, 5).is(5, "rest", NONE).is(4, "rest", 4);
        run.is(NOTHING, "rest", 5).after("put", 1, 4, COST, 1).is(4, "rest", NONE).is(3, "rest", 3);
        run.after("put", 1, 4, ORDERS, 11).is(1, "lose", 1).after("put", 1, 0, COST, 1).is(1, "rest", 0);
        run = run("16: the last of three, against two").envoys(3, 2);
        for (int envoy = 0; envoy < 2; envoy++) {
            run.after("put", 0, envoy, COST, 1).after("put", 1, envoy, COST, 1 - envoy);
        }
        run.is(1, "rest", NONE).is(21, "rest", 0);
    }

    private static void restByLot() {
        // Side 1's man has 4 steps, if 0 speaks, where oneself has none, and costs 15.
        Run run = run("16: by LOT, what both HAVE in the mean").envoys(2, 2).after("set", 0, LOT);
        run.after("put", 1, 1, ORDERS, 4).after("put", 1, 1, COST, 15).is(1, "rest", 0).is(1, "thought", 1).fraction(55, 1);
        run.after("lot", 1, 4).is(0, "rest", 0).is(0, "thought", 1).fraction(75, 1);
        // And side 0's man, if 1 speaks.
        run = run("16: by LOT, for side 0").envoys(2, 2).after("set", 0, LOT);
        run.after("put", 0, 1, ORDERS, 4).after("put", 0, 1, COST, 15).is(10, "rest", 0).is(1, "thought", 0).fraction(55, 1);
        run.after("lot", 3, 4).is(0, "rest", 0).is(0, "thought", 0).fraction(75, 1);
    }

    private static void restNone() {
        Run run = chase("16: none").keeps(0, "rest", NONE).is(NOTHING, "rest", 0).is(NOTHING, "rest", 1);
        run.refuses(-10, "rest", -2).is(0, "lose", 0);
        // 48 and 48 against 50 and 30: with a COST of 10 as much as 50.
        run.after("put", 0, 0, COST, 11).is(0, "rest", NONE).after("put", 0, 0, COST, 10).is(1, "rest", NONE);
        run.is(0, "rest", 0);
    }

    private static void lose() {
        Run run = trap("17: a REST where both HAVE less than if both went themselves");
        run.is(11, "rest", 0).keeps(1, "lose", 0).after("put", 0, 1, COST, 1).is(1, "lose", 0);
        run.after("put", 0, 1, COST, 0).is(1, "rest", NONE).is(0, "lose", 0);
        run.after("put", 0, 1, COST, 5).after("put", 1, 1, COST, 0).is(1, "rest", NONE).is(0, "lose", 0);
        run.after("put", 1, 1, COST, 1).is(1, "lose", 0);
        run.refuses(BAD, "lose", 2).refuses(BAD, "lose", -1).refuses(BAD, "lose", MAX).refuses(BAD, "lose", MIN);
        // Not a REST: two who cost 11 are not sent, though both would lose by them.
        run.after("put", 0, 1, COST, 11).after("put", 1, 1, COST, 11).is(0, "rest", 0).is(0, "lose", 0);
        run("17: one pair").is(0, "lose", 0).is(0, "lose", 1);
    }

    /** Side 1 has 20 a step: 50 and 100, 40 and 115, 55 and 80, 45 and 95. */
    private static void loseOfUnlikeWorths() {
        Run run = trap("17: each less than it would HAVE itself").after("put", 1, 0, SLOPE, 20);
        run.is(11, "rest", 0).is(1, "lose", 0).after("put", 0, 1, COST, 0).is(11, "rest", 0).is(0, "lose", 0);
        run = trap("17: each less than it would HAVE itself").after("put", 0, 0, SLOPE, 20);
        run.is(11, "rest", 0).is(1, "lose", 0).after("put", 1, 1, COST, 0).is(11, "rest", 0).is(0, "lose", 0);
    }

    private static void nothing() {
        Run run = run("17: pairs who settle NOTHING, 0 .. 25").envoys(5, 5).keeps(0, "lose", 1);
        for (int envoy = 0; envoy < 5; envoy++) {
            run.after("put", 0, envoy, ORDERS, 10).is(5 * envoy, "lose", 1);
            run.after("put", 0, envoy, ORDERS, 11).is(5 * (envoy + 1), "lose", 1).after("set", 0, envoy % 4);
        }
        run.is(25, "lose", 1).is(0, "lose", 0);
    }

    private static void weight() {
        Run run = run("18: weights 0 .. 9, 1 at first, of ENVOYS there are");
        run.is(1, "weight", 0, 0, 0).is(0, "weight", 0, 0, 9).refuses(BAD, "weight", 0, 0, 10);
        run.refuses(BAD, "weight", 0, 0, -1).is(9, "weight", 0, 0, 9).refuses(BAD, "weight", 0, 1, 1);
        run.is(1, "envoy", 0).is(1, "weight", 0, 1, 4).is(4, "weight", 0, 1, 5).is(1, "weight", 1, 0, 1);
        run.refuses(BAD, "weight", 1, 1, 1).refuses(BAD, "weight", 2, 0, 1).refuses(BAD, "weight", -1, 0, 1);
        run.envoys(4, 5).is(1, "weight", 0, 4, 9).is(1, "weight", 1, 4, 0).refuses(BAD, "weight", 0, 5, 1);
        run.refuses(BAD, "weight", 0, -1, 1).is(9, "weight", 0, 4, 9).is(9, "weight", 0, 0, 0);
    }

    private static void thought() {
        Run run = trap("19: the greatest mean, of like ones the least; the mean is THE FRACTION");
        run.is(1, "thought", 0).fraction(50, 1).after("weight", 1, 0, 9).is(1, "thought", 0).fraction(54, 1);
        run.after("weight", 1, 1, 9).is(1, "thought", 0).fraction(50, 1).after("weight", 1, 0, 2);
        run.is(1, "thought", 0).fraction(515, 11).after("put", 0, 1, COST, 10).is(0, "thought", 0).fraction(460, 11);
        run.after("put", 0, 1, COST, 9).is(1, "thought", 0).fraction(471, 11);
        run.refuses(BAD, "thought", 2).refuses(BAD, "thought", -1).fraction(471, 11);
        // Own weights are what the other one guesses.
        run.after("weight", 0, 0, 0).is(1, "thought", 0).fraction(471, 11).is(1, "thought", 1).fraction(45, 1);
        run.after("set", 0, LOT).after("lot", 0, 1).after("put", 0, 1, COST, 200).after("weight", 1, 0, 1);
        run.is(0, "thought", 0).fraction(0, 1);
        run = run("19: a mean below 0").after("put", 0, 0, COST, 200).envoys(1, 2).after("put", 1, 1, ORDERS, 11);
        run.after("weight", 1, 1, 2).is(0, "thought", 0).fraction(-550, 3);
    }

    private static void thoughtNone() {
        Run run = run("19: weights of ENVOYS there are; none: NO").envoys(1, 2).after("has", 0, 0, 0);
        run.after("weight", 1, 0, 0).is(0, "thought", 0).after("weight", 1, 1, 0).refuses(NO, "thought", 0);
        run.refuses(BAD, "thought", 2).refuses(BAD, "thought", -1).fraction(50, 1).is(0, "thought", 1);
        run.is(2, "envoy", 1).is(0, "thought", 0).after("weight", 1, 2, 0).refuses(NO, "thought", 0);
        run.after("weight", 1, 1, 1).is(0, "thought", 0).after("weight", 0, 0, 0).refuses(NO, "thought", 1);
    }

    /** By LOT, he alone speaking, one who cares only for his pay has all: least is paid for the last step. */
    private static void paidPieces() {
        for (int wood : new int[] {1, 2, 10, 23, 24}) {
            Run run = run("20: PIECES 0 .. N, a wood of " + wood).envoys(2, 1).after("steps", wood);
            run.after("set", 0, LOT).after("lot", 1, 1).after("put", 0, 1, SLOPE, 0);
            run.keeps(100 * (wood - 1) + 1, "paid", 0, 1, 0);
        }
        Run run = run("20: of like ones the least PIECE, then PAY").envoys(2, 2);
        run.after("set", 0, LOT).after("lot", 1, 1).is(0, "paid", 0, 1, 0).after("put", 0, 1, SLOPE, 0);
        run.after("put", 0, 1, WALK, 20).is(2, "paid", 0, 1, 0).after("put", 0, 1, WALK, 21).is(303, "paid", 0, 1, 0);
        run.after("put", 0, 1, WALK, 20).after("put", 0, 1, PIECE, 24).after("put", 0, 1, PAY, 60);
        run.keeps(2, "paid", 0, 1, 0).is(24, "put", 0, 1, PIECE, 24).is(60, "put", 0, 1, PAY, 60);
        run.after("put", 0, 1, ORDERS, 11).keeps(0, "paid", 0, 1, 0);
        run.refuses(BAD, "paid", 0, 0, 0).refuses(BAD, "paid", 1, 0, 0).refuses(BAD, "paid", 0, 2, 0);
        run.refuses(BAD, "paid", 0, 1, 2).refuses(BAD, "paid", 0, 1, -1).refuses(BAD, "paid", 0, -1, 0);
        run.refuses(BAD, "paid", 2, 1, 0).refuses(BAD, "paid", -1, 1, 0).keeps(0, "paid", 1, 1, 1);
    }

    private static void paidPays() {
        Run run = run("20: PAYS 0 .. 20").envoys(2, 2).after("put", 0, 0, SLOPE, 60).after("put", 1, 0, SLOPE, 60);
        run.after("put", 0, 1, SLOPE, 0).after("put", 0, 1, WALK, 200).after("put", 1, 1, SLOPE, 0);
        run.after("put", 1, 1, WALK, 200).keeps(20, "paid", 0, 1, 0).keeps(20, "paid", 1, 1, 0);
        run.after("put", 0, 1, WALK, 199).is(20, "paid", 0, 1, 0).after("put", 0, 1, WALK, 190).is(19, "paid", 0, 1, 0);
        run.after("put", 0, 1, WALK, 201).keeps(0, "paid", 0, 1, 0).after("put", 1, 1, WALK, 201);
        run.keeps(0, "paid", 1, 1, 0).after("put", 0, 0, SLOPE, 19).after("put", 0, 1, WALK, 200).is(0, "paid", 0, 1, 0);
        // What he is paid is just what the wood is worth: like ones, the least is nothing settled.
        run.after("put", 0, 0, SLOPE, 20).is(0, "paid", 0, 1, 0).after("put", 0, 0, SLOPE, 21).is(20, "paid", 0, 1, 0);
    }

    private static void hard() {
        Run run = run("21: the greatest ORDERS (0 .. N) by which he settles still; none").envoys(2, 2);
        run.keeps(10, "hard", 0, 0, 0).keeps(10, "hard", 1, 1, 1).after("put", 1, 0, WALK, 1).is(9, "hard", 0, 0, 0);
        run.after("put", 1, 0, WALK, 10).is(9, "hard", 0, 0, 0).after("put", 1, 0, WALK, 11).is(8, "hard", 0, 0, 0);
        run.after("put", 1, 0, WALK, 100).is(0, "hard", 0, 0, 0).after("put", 1, 0, WALK, 101).is(NONE, "hard", 0, 0, 0);
        run.after("put", 1, 0, WALK, 100).after("put", 0, 0, WALK, 1).is(NONE, "hard", 0, 0, 0).is(NONE, "hard", 1, 0, 0);
        run.after("put", 0, 0, WALK, 0).after("put", 0, 0, ORDERS, 24).keeps(0, "hard", 0, 0, 0);
        run.is(24, "put", 0, 0, ORDERS, 0).after("put", 1, 0, WALK, 0).after("put", 1, 0, ORDERS, 10);
        run.is(0, "hard", 0, 0, 0).after("put", 1, 0, ORDERS, 11).keeps(NONE, "hard", 0, 0, 0).is(10, "hard", 1, 0, 0);
        run.after("steps", 1).is(1, "hard", 0, 1, 1).after("steps", 24).is(24, "hard", 0, 1, 1).is(24, "hard", 1, 1, 0);
        run.refuses(BAD, "hard", 2, 0, 0).refuses(BAD, "hard", -1, 0, 0).refuses(BAD, "hard", 0, 2, 0);
        run.refuses(BAD, "hard", 0, 0, 2).refuses(BAD, "hard", 0, -1, 0).refuses(BAD, "hard", 1, 0, -1);
        for (int way = OFFERS; way <= RULE; way++) {
            run.after("set", 0, way).keeps(24, "hard", 0, 1, 1).keeps(13, "hard", 0, 1, 0);
        }
    }

    private static void committeeSeats() {
        Run run = run("22: seats 1 or more, so many of them TAKE; more votes than seats: BAD").envoys(5, 2);
        for (int envoy = 0; envoy < 5; envoy++) {
            run.after("put", 0, envoy, ORDERS, 5 + envoy);
        }
        for (int votes = 1; votes <= 5; votes++) {
            run.keeps(4 + votes, "committee", 31, votes, 0);
        }
        run.refuses(BAD, "committee", 31, 6, 0).refuses(BAD, "committee", 31, 0, 0).refuses(BAD, "committee", 31, -1, 0);
        run.refuses(BAD, "committee", 0, 1, 0).refuses(BAD, "committee", 0, 0, 0).refuses(BAD, "committee", -1, 1, 0);
        run.refuses(BAD, "committee", 32, 1, 0).refuses(BAD, "committee", 33, 1, 0).refuses(BAD, "committee", MIN, 1, 0);
        run.refuses(BAD, "committee", MIN + 1, 1, 0).refuses(BAD, "committee", MAX, 1, 0);
        run.is(5, "committee", 1, 1, 0).is(9, "committee", 16, 1, 0).refuses(BAD, "committee", 16, 2, 0);
        run.is(8, "committee", 24, 1, 0).is(9, "committee", 24, 2, 0).refuses(BAD, "committee", 24, 3, 0);
        run.is(9, "committee", 16, 1, 1).refuses(BAD, "committee", 16, 1, 2).refuses(BAD, "committee", 16, 1, -1);
        run.after("put", 1, 0, ORDERS, 1).is(9, "committee", 31, 5, 0).after("put", 1, 0, ORDERS, 2);
        run.is(NOTHING, "committee", 31, 5, 0).is(8, "committee", 31, 4, 0);
        run = run("22: only seats of ENVOYS there are").is(5, "committee", 1, 1, 0).refuses(BAD, "committee", 2, 1, 0);
        run.refuses(BAD, "committee", 3, 1, 0).is(1, "envoy", 0).is(5, "committee", 3, 2, 0).is(5, "committee", 2, 1, 0);
        run.refuses(BAD, "committee", 4, 1, 0).refuses(BAD, "committee", 3, 3, 0).refuses(BAD, "committee", 1, 1, 1);
    }

    /** What a committee TAKES may be below oneself's WALK: by OFFERS it may come to nothing. */
    private static void committeeOffers() {
        Run run = run("22: by OFFERS it may come to nothing; behind the last round: 0; 0 if nothing is settled then");
        run.envoys(2, 1).after("put", 0, 0, WALK, 80).after("put", 1, 0, WALK, 20).after("set", 0, OFFERS);
        for (int rounds = 1; rounds <= 9; rounds++) {
            run.after("set", 1, rounds).after("set", 2, 0).after("put", 1, 0, WALK, 20).is(8, "committee", 2, 1, 0);
            run.after("put", 1, 0, WALK, 21).is(NOTHING, "committee", 2, 1, 0);
            run.after("set", 2, 50).is(NOTHING, "committee", 2, 1, 0);
        }
        run.after("put", 0, 0, WALK, 81).after("put", 1, 0, WALK, 20).is(NOTHING, "committee", 2, 1, 0);
        run.after("set", 1, 8).is(NOTHING, "committee", 2, 1, 0).after("put", 0, 0, WALK, 80).after("put", 1, 0, WALK, 21);
        run.after("set", 0, PRODUCTS).is(7, "committee", 2, 1, 0).after("set", 0, LOT).is(7, "committee", 2, 1, 0);
        run.after("set", 0, RULE).tell("w/10").is(7, "committee", 2, 1, 0).tell("w/16").is(5, "committee", 2, 1, 0);
        run.tell("").is(0, "committee", 2, 1, 0).tell("9)").is(0, "committee", 2, 1, 0);
    }

    private static void recall() {
        Run run = run("23: the least c (0 on) with which it does not call back").envoys(2, 2);
        run.after("put", 0, 1, ORDERS, 6).is(6, "settle", 1, 0).keeps(0, "recall", 0, 1, 0).keeps(0, "recall", 1, 1, 0);
        run.after("put", 0, 0, WALK, 60).is(0, "recall", 0, 1, 0).after("put", 0, 0, WALK, 61).is(1, "recall", 0, 1, 0);
        run.after("put", 0, 0, WALK, 62).is(2, "recall", 0, 1, 0).after("put", 0, 1, COST, 200).is(2, "recall", 0, 1, 0);
        run.after("put", 0, 1, PAY, 60).after("put", 0, 0, WALK, 500).after("put", 1, 0, ORDERS, 4);
        // 60 - 360 against 500.
        run.is(6, "settle", 1, 0).keeps(800, "recall", 0, 1, 0).after("put", 0, 0, WALK, -500).is(0, "recall", 0, 1, 0);
        run.refuses(BAD, "recall", 2, 1, 0).refuses(BAD, "recall", -1, 1, 0).refuses(BAD, "recall", 0, 2, 0);
        run.refuses(BAD, "recall", 0, 1, 2).refuses(BAD, "recall", 0, -1, 0).refuses(BAD, "recall", 1, 1, -1);
        run.after("put", 1, 0, ORDERS, 5).refuses(NO, "recall", 0, 1, 0).refuses(NO, "recall", 1, 1, 0);
        run.refuses(BAD, "recall", 2, 1, 0).is(0, "recall", 0, 1, 1).after("set", 0, LOT).refuses(NO, "recall", 0, 1, 1);
        run.refuses(NO, "recall", 0, 1, 0).refuses(BAD, "recall", 0, 2, 0).refuses(BAD, "recall", 2, 1, 1);
    }

    private static void middle() {
        Run run = run("24: how many, the i-th; -5: not so many; BAD: -10; NO: -20").envoys(2, 2);
        run.keeps(0, "middle", 0, 0, NONE).keeps(NOTHING, "middle", 0, 0, 0).keeps(NOTHING, "middle", 0, 0, MAX);
        // Side 1 pays its man 60 for each step above 3: of 5 steps it has -70, of 4 -20, then 30, 20, 10, 0.
        run.after("put", 1, 1, PIECE, 3).after("put", 1, 1, PAY, 60).after("set", 0, RULE).tell("5");
        run.is(5, "settle", 0, 1).keeps(5, "middle", 0, 1, NONE).is(6, "middle", 0, 1, 0).is(10, "middle", 0, 1, 4);
        run.keeps(NOTHING, "middle", 0, 1, 5).refuses(-10, "middle", 0, 1, -2).refuses(-10, "middle", 0, 1, MIN);
        run.refuses(-10, "middle", 2, 1, NONE).refuses(-10, "middle", 0, 2, 0).refuses(-10, "middle", -1, 0, 0);
        run.refuses(-10, "middle", 0, -1, 0).after("put", 0, 0, ORDERS, 8).is(8, "settle", 0, 1).is(0, "middle", 0, 1, NONE);
        run.after("put", 1, 1, ORDERS, 3).is(NOTHING, "settle", 0, 1).keeps(0, "middle", 0, 1, NONE);
        run.is(NOTHING, "middle", 0, 1, 0).after("set", 0, LOT).refuses(-20, "middle", 0, 1, NONE);
        run.refuses(-20, "middle", 0, 0, 0).refuses(-20, "middle", 0, 0, MAX).refuses(-10, "middle", 0, 0, -2);
        run.refuses(-10, "middle", 2, 0, NONE).refuses(-10, "middle", 0, 2, NONE);
    }

    private static void middleMore() {
        Run run = run("24: both SIDES HAVE more").envoys(2, 2).after("set", 0, RULE).tell("5");
        // Of 5, 4, 3 steps side 1 has 30 each; with a PAY of 11 28, 29, 30; of 2 20.
        run.after("put", 1, 1, PIECE, 3).after("put", 1, 1, PAY, 10).is(0, "middle", 1, 1, NONE);
        run.after("put", 1, 1, PAY, 11).is(2, "middle", 1, 1, NONE).is(6, "middle", 1, 1, 0).is(7, "middle", 1, 1, 1);
        run.is(NOTHING, "middle", 1, 1, 2).after("put", 1, 1, ORDERS, 4).is(1, "middle", 1, 1, NONE);
        run.after("put", 1, 1, ORDERS, 0).after("put", 0, 0, SLOPE, 0).is(0, "middle", 1, 1, NONE);
        run.after("put", 0, 0, MARK, 7).after("put", 0, 0, BONUS, 1).is(1, "middle", 1, 1, NONE).is(7, "middle", 1, 1, 0);
        run.after("put", 0, 0, MARK, 5).is(0, "middle", 1, 1, NONE);
        // Side 0 pays its man 60 a step: of none it has most.
        run = run("24: SHARES from 0 on").envoys(2, 1).after("set", 0, RULE).tell("5").after("put", 0, 1, PAY, 60);
        run.is(5, "middle", 1, 0, NONE).is(0, "middle", 1, 0, 0).is(4, "middle", 1, 0, 4).is(NOTHING, "middle", 1, 0, 5);
    }

    private static void edge() {
        Run run = trap("25: by how much (1 .. 30) at least").after("put", 0, 1, COST, 10).after("put", 1, 1, COST, 10);
        // A harder man brings a step: he is sent when it is worth more than he costs.
        run.is(0, "rest", 0).keeps(1, "edge", 0).keeps(1, "edge", 1);
        run.after("put", 0, 1, COST, 39).keeps(30, "edge", 0).after("put", 0, 1, COST, 40).keeps(NONE, "edge", 0);
        run.after("put", 1, 1, COST, 39).keeps(30, "edge", 1).after("put", 1, 1, COST, 40).keeps(NONE, "edge", 1);
        run.refuses(BAD, "edge", 2).refuses(BAD, "edge", -1).refuses(BAD, "edge", MAX).refuses(BAD, "edge", MIN);
        run.after("put", 0, 0, SLOPE, 60).after("put", 0, 1, COST, 60).keeps(1, "edge", 0);
        run.after("put", 0, 1, COST, 89).keeps(30, "edge", 0).after("put", 0, 1, COST, 90).keeps(NONE, "edge", 0);
        run.is(60, "put", 0, 0, SLOPE, 60);
        run("25: one pair is always the REST").keeps(NONE, "edge", 0).keeps(NONE, "edge", 1);
    }

    /**
     * Oneself with a WALK of 40 settles 7 steps up to a SLOPE of 13, then 6: so from 14 on a man is sent who has
     * ORDERS to take 7, for 5. Once the other side itself is met, once its man, who costs less.
     */
    private static void edgeOfHimself() {
        for (int side = 0; side <= 1; side++) {
            for (int others = 1; others <= 2; others++) {
                Run run = run("25: oneself settles otherwise with another SLOPE, side " + side);
                run.envoys(side == 0 ? 2 : others, side == 0 ? others : 2);
                run.after("put", side, 0, WALK, 40).after("put", side, 1, ORDERS, 7).after("put", side, 1, COST, 5);
                run.after("put", 1 - side, 0, COST, 50);
                int met = side == 0 ? others - 1 : 10 * (others - 1);
                run.is(met, "rest", 0).keeps(4, "edge", side).after("put", side, 0, SLOPE, 13).is(met, "rest", 0);
                run.after("put", side, 0, SLOPE, 14).is(met + (side == 0 ? 10 : 1), "rest", 0);
            }
        }
    }

    private static void edgeNone() {
        // Side 0 has 6 steps for 12 or 5: with a SLOPE of 12 as much, and the first pair is a REST.
        Run run = chase("25: none, and one now").is(NOTHING, "rest", 0).keeps(2, "edge", 0);
        run.after("put", 0, 0, SLOPE, 11).is(0, "rest", NONE).is(1, "edge", 0);
        run.after("put", 0, 0, SLOPE, 12).is(0, "rest", 0);
        // Side 1 has 7 steps for 12 or 5: with a SLOPE of 6 as much, with 7 more: then there is no REST.
        run = chase("25: one, and none then").after("put", 1, 0, SLOPE, 6).is(10, "rest", 0).keeps(1, "edge", 1);
        run.after("put", 1, 0, SLOPE, 7).is(NOTHING, "rest", 0);
        run = chase("25: none, and none still").keeps(NONE, "edge", 1);
    }

    private static void part() {
        Run run = run("26: 0 by 1 at first; lowest terms, below above 0").keeps(0, "part", 0).keeps(1, "part", 1);
        run.refuses(-1000000, "part", 2).refuses(-1000000, "part", -1).refuses(-1000000, "part", MAX);
        run.refuses(-1000000, "part", MIN).after("set", 0, LOT).after("lot", 6, 9).has(200, 3, 0, 0, 0);
        run.after("put", 1, 0, COST, 50).has(-50, 3, 1, 0, 0).after("lot", 0, 8).has(0, 1, 0, 0, 0);
        run.refuses(-1000000, "part", 2).fraction(0, 1);
    }

    private static void count() {
        Run run = run("27: how many ENVOYS, 1 .. 5");
        for (int count = 1; count <= 5; count++) {
            run.keeps(count, "count", 0).keeps(1, "count", 1).after("envoy", 0);
        }
        run.is(5, "count", 0).refuses(BAD, "count", 2).refuses(BAD, "count", -1).refuses(BAD, "count", MAX);
    }

    private static long digestOf(long... values) {
        long h = 463;
        for (long value : values) {
            h = 31 * h + value;
        }
        return h;
    }

    /** All envoys, the longest text, the ends of every range: each number at its place, and no other. */
    private static void digest() {
        Run run = run("28: full").envoys(5, 5).after("steps", 24);
        long[] all = new long[3 + 100 + 5 + 1 + 40 + 2];
        int at = 0;
        all[at++] = 24;
        all[at++] = 5;
        all[at++] = 5;
        for (int number = 0; number < 10; number++) {
            for (int what = 0; what <= COST; what++) {
                int v = (number + what) % 3 == 0 ? LEAST[what] : MOST[what];
                run.after("put", number / 5, number % 5, what, v);
                all[at++] = v;
            }
            run.after("weight", number / 5, number % 5, number % 2 == 0 ? 0 : 9);
            all[at++] = number % 2 == 0 ? 0 : 9;
        }
        for (int v : new int[] {LOT, 9, 50, 0, 9, 40}) {
            all[at++] = v;
        }
        run.after("set", 0, LOT).after("set", 1, 9).after("set", 2, 50).after("lot", 0, 9);
        for (int place = 0; place < 40; place++) {
            run.after("write", place % 2 == 0 ? 127 - place : place - 1);
            all[at++] = place % 2 == 0 ? 127 - place : place - 1;
        }
        all[at++] = 0;
        all[at] = 1;
        run.is(digestOf(all), "digest").is(digestOf(all), "digest");

        run = run("28: a FRACTION below 0").after("put", 0, 0, COST, 200).after("set", 0, LOT).after("lot", 1, 3);
        run.has(-500, 3, 0, 0, 0).is(digestOf(10, 1, 1, 10, 0, 0, 0, 0, 0, 0, 0, 200, 1,
                10, 0, 0, 0, 0, 0, 0, 0, 0, 1, LOT, 2, 0, 1, 3, 0, -500, 3), "digest");
    }
}
