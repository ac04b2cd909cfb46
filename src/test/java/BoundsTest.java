/**
 * The sentences of "Terms" that name a boundary, one by one: at it and just outside of it. All answers are worked
 * by hand. (LimitsTest has the arguments, RefusedTest what is refused, LawsTest the texts of laws.)
 */
public final class BoundsTest {
    private static final int NONE = YardTalk.NONE;
    private static final Check check = new Check();

    public static void main(String[] args) {
        drawsWrap();
        drawsAreOfBits16To30();
        pointIsAbove();
        yearsAndAges();
        kinds();
        firstWeights();
        signOfGreatestWeight();
        orderOfGreatestWeight();
        drawnIfAllAreNone();
        wornFromTheFirst();
        wornByEachWear();
        wornCouples();
        weightsOfBothTogether();
        learntIsTheSignSeen();
        moreForTheSignUsed();
        zeroAtEachStep();
        nineHundredNinetyNineAtEachStep();
        ruleAboveAllOthersTogether();
        ruleByMust();
        numbersWithoutLaw();
        check.end();
    }

    private static void due(String what, Object want, Check.Call call) {
        check.due(what, want, call);
    }

    /** A law is read and put in force. */
    private static void force(YardTalk x, String text) {
        x.force(Check.law(x, text));
    }

    private static void signs(String what, YardTalk x, int talk, int one, int two, int three) {
        due(what, one + " " + two + " " + three, () -> x.note(talk, 7) + " " + x.note(talk, 8) + " " + x.note(talk, 9));
    }

    /** Two teachers: one DRAW of CHANCE in a talk, that of SHOWN. */
    private static void drawsWrap() {
        int[][] becomes = {{0, 12345}, {1, 1103527590}, {-1, -1103502900}, {Integer.MAX_VALUE, 1043980748},
            {Integer.MIN_VALUE, -2147471303}, {1103527590, -1770082073}};
        for (int[] b : becomes) {
            YardTalk x = Yards.with("tt");
            x.seeds(9, b[0]);
            x.talk(0, 1, 0, 0, 0);
            due("1: chance " + b[0] + " becomes", b[1], () -> x.count(10));
            due("1: choice is not drawn", 9, () -> x.count(11));
        }
        // A RUN's TALK has five DRAWS of CHOICE, also if one of them is of 1.
        YardTalk y = Yards.with("tt");
        y.run(0, 1);
        due("1: five draws of choice", -112468174, () -> y.count(11));
        due("1: one draw of chance", 1103527590, () -> y.count(10));
    }

    /** Bit 31 is not drawn: from 2 on it is set, bits 16 to 30 leave 8 by 100 (with bit 31 it would be 76). */
    private static void drawsAreOfBits16To30() {
        int[][] leaves = {{2, 8}, {3, 47}, {6, 26}, {1, 38}, {0, 0}, {132, 0}, {194, 99}, {Integer.MIN_VALUE, 0},
            {-1, 29}, {24884, 67}};
        for (int[] l : leaves) {
            due("1: from " + l[0] + " on a draw of 100 is " + l[1] + ": not below it", 0, () -> shown(l[0], l[1]));
            due("1: from " + l[0] + " on a draw of 100 is " + l[1] + ": below the next", 1, () -> shown(l[0], l[1] + 1));
        }
    }

    private static int shown(int chance, int point) {
        YardTalk x = Yards.with("tt");
        x.seeds(1, chance);
        x.set(1, point);
        x.talk(0, 1, 0, 0, 0);
        return x.note(0, 15);
    }

    private static void pointIsAbove() {
        due("3: 0 is below no POINT of 0", 0, () -> shown(132, 0));
        due("3: 0 is below 1", 1, () -> shown(132, 1));
        due("3: 99 is not below 99", 0, () -> shown(194, 99));
        due("3: 99 is below 100", 1, () -> shown(194, 100));
        // 50 at first: 47 is shown (from 3 on); from 5 on the draw leaves 55.
        YardTalk x = Yards.with("tt");
        x.seeds(1, 3);
        x.talk(0, 1, 0, 0, 0);
        x.seeds(1, 5);
        x.talk(0, 1, 0, 0, 0);
        due("3: 47 is below 50", 1, () -> x.note(0, 15));
        due("3: 55 is not", 0, () -> x.note(1, 15));
    }

    private static void yearsAndAges() {
        YardTalk x = new YardTalk();
        x.come(0, 20, false);
        x.come(0, 0, false);
        x.years(59);
        x.come(0, 20, true);
        due("1: the last year", 60, () -> x.years(1));
        due("1: no more", "throws.IllegalStateException", () -> x.years(1));
        due("1: it stays", 60, () -> x.count(0));
        due("1: none more can be", 60, () -> x.years(0));
        due("2: the greatest AGE now", 80, () -> x.of(0, 1));
        due("2: 60 years since it came at 0", 60, () -> x.of(1, 1));
        due("2: came in YEAR 59", 21, () -> x.of(2, 1));
        x.come(0, 7, false);
        due("2: comes in the last year", 7, () -> x.of(3, 1));
        x.leave(0);
        due("2: also of one that has LEFT", 80, () -> x.of(0, 1));
        force(x, "must 0 if age>79 and there>59;must 0 if age=60 and there=60;must 501 if there=1;");
        due("4: age 80, there 60", true, () -> x.holds(0, 5));
        due("4: age 60, there 60", true, () -> x.holds(1, 5));
        due("4: there 1", false, () -> x.holds(2, 0));
    }

    private static void kinds() {
        int[][] kinds = {{0, 0}, {6, 0}, {7, 1}, {11, 1}, {12, 2}, {20, 2}};
        for (int[] k : kinds) {
            YardTalk x = new YardTalk();
            x.come(0, k[0], false);
            x.come(0, k[0], true);
            due("2: came at " + k[0], k[1], () -> x.of(0, 2));
            due("2: a TEACHER at " + k[0], 3, () -> x.of(1, 2));
            x.years(60);
            due("2: stays by the AGE at which it came, " + k[0], k[1], () -> x.of(0, 2));
        }
        // By what they learn: at 6 a rule is made, at 7 and 11 an order is learnt, at 12 none is.
        int[][] orders = {{6, 999}, {7, 100}, {11, 100}, {12, 0}};
        for (int[] o : orders) {
            YardTalk x = Yards.with("t");
            x.come(0, o[0], false);
            x.set(1, 100);
            force(x, "order 100;");
            x.talk(0, 1, 0, 0, 0);
            due("3: an order learnt by one who came at " + o[0], o[1], () -> x.order(1, 0));
            due("3: a sign learnt by one who came at " + o[0], 10, () -> x.sign(1, 4, 4));
        }
    }

    private static void firstWeights() {
        YardTalk x = new YardTalk();
        for (int i = 0; i < 23; i++) {
            x.come(2, 9, false);
        }
        x.come(2, 0, true);
        due("2: the last number", 24, () -> x.count(1));
        int[][] weights = {{0, 0, 0, 10}, {0, 7, 5, 10}, {22, 0, 14, 10}, {22, 7, 3, 10}, {23, 0, 0, 500},
            {23, 7, 7, 500}};
        for (int[] w : weights) {
            due("2: child " + w[0] + " concept " + w[1] + " sign " + w[2], w[3], () -> x.sign(w[0], w[1], w[2]));
            due("2: of all signs of it", w[3], () -> {
                int sum = 0;
                for (int sign = 0; sign < 16; sign++) {
                    sum += x.sign(w[0], w[1], sign);
                }
                return sum;
            });
        }
        for (int i = 0; i < 6; i++) {
            int order = i;
            due("2: the TEACHER's order " + order, order == 0 ? 500 : 0, () -> x.order(23, order));
            due("2: others' order " + order, 0, () -> x.order(22, order));
        }
        YardTalk y = new YardTalk();
        for (int i = 0; i < 24; i++) {
            y.come(0, 20, i == 0);
        }
        due("2: 5 times 23, by 16", 10, () -> y.sign(23, 0, 3));
        due("2: 5 times 23 and 21, by 16", 10, () -> y.sign(23, 7, 8));
    }

    /** Child 1's own signs for 0, 4 and 1 (5, 1, 8) lose 2 of 10; the teacher's (0, 4, 1) get what is learnt. */
    private static YardTalk taughtBy(String law) {
        YardTalk x = Yards.with("tm");
        x.set(1, 100);
        force(x, law);
        x.talk(0, 1, 0, 0, 1);
        x.talk(1, 0, 0, 0, 1);
        return x;
    }

    private static void signOfGreatestWeight() {
        signs("2: its own are greater", taughtBy("learn 7;"), 1, 5, 1, 8);
        signs("2: alike: of these the least", taughtBy("learn 8;"), 1, 0, 1, 1);
        signs("2: the teacher's are greater", taughtBy("learn 9;"), 1, 0, 4, 1);
        // The least of the ORDERS, too, and of SIGN 15: child 3's sign for 0 is 15, child 1's is 5.
        YardTalk x = Yards.with("tmmm");
        x.set(1, 100);
        force(x, "learn 0;lose 0;");
        x.talk(0, 3, 0, 0, 0);
        x.talk(3, 0, 0, 0, 0);
        signs("2: the greatest sign", x, 1, 15, 11, 15);
    }

    /** A late one says order 2 (CHANCE 1) and 5 (CHANCE 3), a teacher 0. */
    private static void orderOfGreatestWeight() {
        YardTalk x = Yards.with("tml");
        x.set(1, 100);
        force(x, "lose 0;");
        x.seeds(1, 3);
        x.talk(2, 1, 0, 0, 0);
        x.seeds(1, 1);
        x.talk(2, 1, 0, 0, 0);
        due("2: 5 and 2 are alike", "10 10", () -> x.order(1, 5) + " " + x.order(1, 2));
        x.talk(1, 2, 0, 0, 0);
        due("2: of these the least", 2, () -> x.note(2, 6));
        x.seeds(1, 3);
        x.talk(2, 1, 0, 0, 0);
        x.talk(1, 2, 0, 0, 0);
        due("2: the greatest", 5, () -> x.note(4, 6));
    }

    /** From CHANCE 1 on the draws are 16838, 5758, 10113, 17515, 31051. */
    private static void drawnIfAllAreNone() {
        YardTalk x = Yards.with("tl");
        x.set(1, 100);
        force(x, "learn 0;lose 999;");
        x.talk(0, 1, 1, 1, 1);
        due("2: no sign of weight", 0, () -> x.sign(1, 1, 8) + x.sign(1, 1, 1) + x.sign(1, 5, 4) + x.sign(1, 5, 5));
        x.set(1, 51);
        x.seeds(1, 1);
        x.talk(1, 0, 1, 1, 1);
        due("2: a draw of 6 for the order", 2, () -> x.note(1, 6));
        signs("2: draws of 16, place by place", x, 1, 14, 1, 11);
        due("3: then the draw of 100, 51, is not below 51", 0, () -> x.note(1, 15));
        due("2: five draws", -112468174, () -> x.count(10));
        due("2: of choice none", 1, () -> x.count(11));
        x.set(1, 52);
        x.seeds(1, 1);
        x.talk(1, 0, 1, 1, 1);
        due("3: it is below 52", 1, () -> x.note(2, 15));
        due("23: the drawn signs are used, twice by now", "2 2", () -> x.uses(0, 14) + " " + x.uses(0, 11));
        // A WEIGHT of 1 is enough for none to be drawn.
        YardTalk y = Yards.with("tm");
        y.set(1, 100);
        force(y, "learn 1;lose 999;order 1;");
        y.talk(0, 1, 0, 0, 1);
        y.seeds(1, 1);
        y.talk(1, 0, 0, 0, 1);
        signs("2: signs of weight 1", y, 1, 0, 4, 1);
        due("2: an order of weight 1", 0, () -> y.note(1, 6));
        due("2: one draw alone", 1103527590, () -> y.count(10));
    }

    /** From CHOICE 255 on 1,000 talks use SIGN 0 545 times and SIGN 1 524 times. */
    private static void wornFromTheFirst() {
        YardTalk x = Yards.with("tt");
        x.seeds(255, 1);
        for (int i = 0; i < 5; i++) {
            x.run(0, 200);
        }
        Yards.say(x, 455, 0, 1, 0, 0, 1);
        Yards.say(x, 10, 0, 1, 1, 0, 1);
        due("3: used", "1000 999", () -> x.uses(0, 0) + " " + x.uses(0, 1));
        due("3: 999 is not WORN", 1, () -> x.seen(0, 1));
        due("3: and is taken", 1, () -> x.meets(0, 1) == 64 ? 1 : x.note(x.count(3) - 1, 14));
        x.talk(0, 1, 2, 0, 1);
        due("3: 1,000 is, at first", 0, () -> x.seen(0, 1));
        due("3: by this very talk", 0, () -> x.note(x.count(3) - 1, 14));
    }

    private static void wornByEachWear() {
        YardTalk x = Yards.with("tt");
        Yards.say(x, 12, 0, 1, 0, 0, 1);
        Yards.say(x, 3, 0, 1, 1, 1, 1);
        int[][] wear = {{10, 0}, {11, 0}, {12, 0}, {13, 1}, {10000, 1}};
        for (int[] w : wear) {
            x.set(0, w[0]);
            due("3: used 12 and 18 times, WEAR " + w[0], w[1], () -> x.seen(0, 1));
            due("3: 0 is seen as it is", 0, () -> x.seen(0, 0));
        }
        x.set(0, 10);
        Yards.say(x, 6, 0, 1, 0, 1, 0);
        due("3: 9 is not 10", 5, () -> x.seen(0, 5));
        x.talk(0, 1, 0, 1, 0);
        due("3: 10 is", 4, () -> x.seen(0, 5));
    }

    /** Couples are 2 k and 2 k + 1: 0 and 1, not 1 and 2; the last is 14 and 15. */
    private static void wornCouples() {
        YardTalk x = Yards.with("tt");
        x.set(0, 10);
        Yards.say(x, 10, 0, 1, 1, 0, 2);
        due("3: 1 and 2 are no couple", "1 2", () -> x.seen(0, 1) + " " + x.seen(0, 2));
        due("3: 0 and 3 are not worn", "0 3", () -> x.seen(0, 0) + " " + x.seen(0, 3));
        Yards.say(x, 10, 0, 1, 3, 3, 3);
        due("3: 2 and 3 are", "2 2", () -> x.seen(0, 2) + " " + x.seen(0, 3));
        due("3: 7 alone is not", "6 7", () -> x.seen(0, 6) + " " + x.seen(0, 7));
        // Child 3's signs for 0 and 5 are 15 and 14.
        YardTalk y = Yards.with("tmmm");
        y.set(0, 10);
        y.set(1, 100);
        force(y, "learn 0;lose 0;");
        Yards.say(y, 9, 3, 0, 0, 1, 1);
        due("3: 9 is not worn", 15, () -> y.seen(0, 15));
        y.talk(3, 0, 0, 1, 1);
        due("3: the last couple", "14 14", () -> y.seen(0, 14) + " " + y.seen(0, 15));
        due("3: in that YARD alone", "15 15", () -> y.seen(1, 15) + " " + y.seen(2, 15));
        y.visit(0, 1);
        due("3: where they were used", 10, () -> y.uses(0, 15));
    }

    /** Child 9's own sign for person 1 is 0; it learns sign 1 for it (6), and sign 0 for person 0 (15). */
    private static void weightsOfBothTogether() {
        YardTalk x = Yards.with("tt");
        for (int i = 2; i < 9; i++) {
            x.come(1, 9, false);
        }
        x.come(0, 9, false);
        x.set(1, 100);
        force(x, "lose 0;learn 6;");
        x.talk(0, 9, 1, 0, 2);
        force(x, "lose 0;learn 15;");
        x.talk(0, 9, 0, 0, 2);
        force(x, "lose 0;learn 0;");
        due("3: for 0 and for 1", "15 10 6", () -> x.sign(9, 0, 0) + " " + x.sign(9, 1, 0) + " " + x.sign(9, 1, 1));
        x.talk(0, 9, 0, 0, 2);
        due("3: sign 0 is taken by its own weight", 0, () -> x.note(2, 11));
        x.set(0, 10);
        Yards.say(x, 10, 0, 1, 0, 0, 1);
        x.talk(0, 9, 0, 0, 2);
        due("3: 16 is above 15: by both together", 1, () -> x.note(13, 11));
        due("3: the sign is as it was used", 0, () -> x.note(13, 7));
        force(x, "lose 0;learn 1;");
        x.talk(0, 9, 0, 1, 3);
        force(x, "lose 0;learn 0;");
        x.talk(0, 9, 0, 0, 2);
        due("3: 16 and 16: the least", 0, () -> x.note(15, 11));
        due("3: 1 is seen alike", 0, () -> {
            x.talk(0, 9, 1, 0, 2);
            return x.note(16, 11);
        });
        x.set(0, 10000);
        x.talk(0, 9, 1, 0, 2);
        due("3: not if they are not worn", 1, () -> x.note(17, 11));
    }

    /** Sign 1 is worn with 0: what is learnt goes to 0, and 1 loses; a law's weight is that of 0 alone. */
    private static void learntIsTheSignSeen() {
        YardTalk x = Yards.with("ttm");
        x.set(1, 100);
        force(x, "learn 7;");
        x.talk(0, 2, 1, 0, 1);
        due("3: 1 is learnt, twice", 14, () -> x.sign(2, 1, 1));
        x.set(0, 10);
        Yards.say(x, 9, 0, 1, 0, 0, 1);
        due("3: 1 is not worn by its 11 uses alone", 1, () -> x.seen(0, 1));
        x.talk(0, 1, 0, 0, 0);
        force(x, "learn weight+5;lose 3;");
        x.talk(0, 2, 1, 0, 2);
        due("3: 5 for 0", 5, () -> x.sign(2, 1, 0));
        due("3: 3 less for 1", 11, () -> x.sign(2, 1, 1));
        x.talk(0, 2, 1, 0, 2);
        due("4: weight is of 0 alone", 15, () -> x.sign(2, 1, 0));
        due("3: 3 less again", 8, () -> x.sign(2, 1, 1));
    }

    /** Child 1 says sign 5 for person 0 and sign 4 for act 1; child 2 learns both and is right from the second on. */
    private static void moreForTheSignUsed() {
        YardTalk x = Yards.with("tmm");
        x.set(1, 100);
        x.set(0, 10);
        force(x, "learn 0;lose 0;");
        x.talk(0, 1, 0, 0, 0);
        force(x, "learn 50;lose 0;order 50;");
        Yards.say(x, 9, 1, 2, 0, 1, 3);
        due("3: eight were right", 18, () -> x.sign(1, 0, 5));
        due("3: the order, too", 18, () -> x.order(1, 0));
        due("3: 9 uses are not worn", 5, () -> x.seen(0, 5));
        due("3: right also when it is worn", 1, () -> x.talk(1, 2, 0, 1, 3));
        due("3: 5 is seen as 4", 4, () -> x.seen(0, 5));
        due("3: 1 more for the SIGN that was used", 19, () -> x.sign(1, 0, 5));
        due("3: not for what is SEEN", 0, () -> x.sign(1, 0, 4));
        due("3: learnt is what is SEEN", "50 450", () -> x.sign(2, 0, 4) + " " + x.sign(2, 0, 5));
    }

    /**
     * Not shown, by order 2 (CHANCE 1) child 1 takes signs 1 4 2 as act 0 (its sign is 1), person 0, person 0.
     * So person 0 learns sign 4 and then sign 2.
     */
    private static void zeroAtEachStep() {
        YardTalk x = Yards.with("tm");
        x.set(1, 0);
        force(x, "learn 10;lose 20;");
        x.seeds(1, 1);
        x.talk(0, 1, 1, 0, 2);
        due("3: taken", "2 0 0 0", () -> x.note(0, 10) + " " + x.note(0, 11) + " " + x.note(0, 12) + " " + x.note(0, 13));
        due("3: 0 less 20 is 0, and 10 more", 10, () -> x.sign(1, 0, 2));
        due("3: 10 less 20 is 0", 0, () -> x.sign(1, 0, 4));
        due("3: its own, too", 0, () -> x.sign(1, 0, 5));
        due("3: 10 and 10 for the act", 20, () -> x.sign(1, 4, 1));
    }

    private static void nineHundredNinetyNineAtEachStep() {
        YardTalk x = Yards.with("tm");
        x.set(1, 0);
        force(x, "learn 999;lose 5;");
        x.seeds(1, 1);
        x.talk(0, 1, 1, 0, 2);
        due("3: 999 less 5", 994, () -> x.sign(1, 0, 4));
        due("3: 999", 999, () -> x.sign(1, 0, 2));
        x.talk(0, 1, 1, 0, 2);
        due("3: 999 at most, and then 5 less", 994, () -> x.sign(1, 0, 4));
        due("3: 5 less, and 999 at most again", 999, () -> x.sign(1, 0, 2));
        // An ORDER and a SIGN of 999 have no more when they are right.
        YardTalk y = Yards.with("tm");
        y.set(1, 100);
        force(y, "learn 998;order 998;");
        y.talk(0, 1, 0, 0, 1);
        due("3: right", 1, () -> y.talk(1, 0, 0, 0, 1));
        due("3: 998 and 1", "999 999 999", () -> y.sign(1, 0, 0) + " " + y.sign(1, 4, 4) + " " + y.order(1, 0));
        due("3: right again", 1, () -> y.talk(1, 0, 0, 0, 1));
        due("3: 999 at most", "999 999 999", () -> y.sign(1, 0, 0) + " " + y.sign(1, 4, 4) + " " + y.order(1, 0));
    }

    /** A young one has 60 of order 1 (CHANCE 5) and of order 2 (CHANCE 1); then the teacher's order 0. */
    private static YardTalk young(String law) {
        YardTalk x = Yards.with("tyl");
        x.set(1, 100);
        force(x, "order 60;lose 0;must 999;");
        x.seeds(1, 5);
        x.talk(2, 1, 0, 0, 0);
        x.seeds(1, 1);
        x.talk(2, 1, 0, 0, 0);
        force(x, law);
        x.talk(0, 1, 0, 0, 0);
        return x;
    }

    private static void orders(String what, YardTalk x, String want) {
        due(what, want, () -> x.order(1, 0) + " " + x.order(1, 1) + " " + x.order(1, 2));
    }

    private static void ruleAboveAllOthersTogether() {
        orders("3: 120 is not above 60 and 60", young("order 120;lose 0;must 100;"), "120 60 60");
        orders("3: 121 is", young("order 121;lose 0;must 100;"), "999 0 0");
        orders("3: the others when they have lost", young("order 101;lose 10;must 100;"), "999 0 0");
        orders("3: 100 is not above 50 and 50", young("order 100;lose 10;must 100;"), "100 50 50");
    }

    private static void ruleByMust() {
        orders("3: 121 is must", young("order 121;lose 0;must 121;"), "999 0 0");
        orders("3: 121 is below must", young("order 121;lose 0;must 122;"), "121 60 60");
        // Without a law must is 100.
        YardTalk x = Yards.with("ty");
        x.set(1, 100);
        force(x, "order 89;");
        x.talk(0, 1, 0, 0, 0);
        x.force(NONE);
        x.talk(0, 1, 0, 0, 0);
        due("4: 99 is no rule", 99, () -> x.order(1, 0));
        force(x, "order 1;");
        x.talk(0, 1, 0, 0, 0);
        due("4: 100 is", 999, () -> x.order(1, 0));
    }

    private static void numbersWithoutLaw() {
        YardTalk x = Yards.with("tml");
        x.set(1, 100);
        x.seeds(1, 1);
        x.talk(2, 1, 0, 0, 0);
        x.talk(0, 1, 0, 0, 1);
        due("4: learn 10", 10, () -> x.sign(1, 1, 1));
        due("4: lose 2", 8, () -> x.sign(1, 1, 8));
        due("4: order 10", 10, () -> x.order(1, 0));
        due("4: lose 2 of an order", 8, () -> x.order(1, 2));
        for (int[] h : new int[][] {{99, 0}, {100, 1}}) {
            YardTalk y = Yards.with("tm");
            y.set(1, 100);
            force(y, h[0] == 99 ? "order 99;" : "order 100;");
            y.talk(0, 1, 0, 0, 0);
            y.force(NONE);
            due("4: must 100 of " + h[0], h[1], () -> y.of(1, 6));
            due("20: held by " + h[0], 1 + h[1], () -> y.held(0, 0));
        }
    }
}
