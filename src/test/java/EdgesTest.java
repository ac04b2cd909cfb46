/**
 * Edges that only one place of the class decides: each order's places, the least weights, the number of TALKS in a
 * TRIAL, the LAW that a call asks, the words of a law letter by letter. All answers are worked by hand.
 */
public final class EdgesTest {
    private static final int NONE = YardTalk.NONE;
    private static final Check check = new Check();

    public static void main(String[] args) {
        ordersSaid();
        ordersTaken();
        runByNumbers();
        runOfTwoAmongMany();
        oneTalkOfATrial();
        mostTalksOfATrial();
        trialOfOneChild();
        lawThatIsAsked();
        heldIsOutsideOfTalks();
        rightInALaw();
        weightsOfOne();
        yardsOfWeightOne();
        orderOfAYard();
        farthestYard();
        lastYardGoesBack();
        filmUnlikeAtOnePlace();
        meetsByOneChance();
        oddsByChance();
        rootsRoundASide();
        personsAndActsAreNotBlurred();
        lettersOfWords();
        openInLeastAndMost();
        faultyLawsLeaveRoom();
        fullYard();
        lastOfAllChildren();
        neighboursStay();
        yardsOfNobody();
        blurredByTheGreaterSign();
        fewestOfTheYard();
        noSignIsNotSeenAsOne();
        lateOnesAreRight();
        actsThatAreNotPlain();
        nearestOfEachYard();
        evenSignOfACouple();
        evenSignBehindACouple();
        ruleByItsWeight();
        bitsOfDraws();
        weightsTogetherOfOne();
        nearerByOne();
        oddsByChoice();
        signsByOne();
        ordersByOne();
        check.end();
    }

    private static void due(String what, Object want, Check.Call call) {
        check.due(what, want, call);
    }

    private static void force(YardTalk x, String text) {
        x.force(Check.law(x, text));
    }

    private static String row(YardTalk x, int talk, int from, int to) {
        StringBuilder row = new StringBuilder();
        for (int what = from; what <= to; what++) {
            row.append(what == from ? "" : " ").append(x.note(talk, what));
        }
        return row.toString();
    }

    private static int becomes(int seed) {
        return seed * 1103515245 + 12345;
    }

    private static int leaves(int seed, int n) {
        return (seed >>> 16 & 32767) % n;
    }

    /** The least seed from which on the first draw of six is this one. */
    private static int seedOf(int order) {
        int seed = 1;
        while (leaves(becomes(seed), 6) != order) {
            seed++;
        }
        return seed;
    }

    /** Child 1, a late one, has signs 5, 1 and 8 for person 0, act 4 and person 1. */
    private static void ordersSaid() {
        String[] signs = {"5 1 8", "5 8 1", "1 5 8", "1 8 5", "8 5 1", "8 1 5"};
        for (int i = 0; i < 6; i++) {
            int order = i;
            YardTalk x = Yards.with("tl");
            x.seeds(1, seedOf(order));
            x.talk(1, 0, 0, 0, 1);
            due("2: order drawn", order, () -> x.note(0, 6));
            due("2: places of order " + order, signs[order], () -> row(x, 0, 7, 9));
        }
    }

    /** A late one that knows the teacher's signs alone. */
    private static YardTalk lateOneThatKnows() {
        YardTalk x = Yards.with("tl");
        x.set(1, 100);
        force(x, "learn 999;lose 999;");
        x.talk(0, 1, 0, 0, 1);
        x.talk(0, 1, 2, 1, 3);
        x.talk(0, 1, 0, 2, 1);
        x.talk(0, 1, 2, 3, 3);
        force(x, "learn 0;lose 0;");
        return x;
    }

    /** Signs 1, 6 and 3: an act's sign at a person's place is no person's, so the least is taken, 0. */
    private static void ordersTaken() {
        String[] taken = {"1 2 3", "1 0 0", "0 0 3", "3 0 0", "0 0 1", "3 2 1"};
        for (int i = 0; i < 6; i++) {
            int order = i;
            YardTalk x = lateOneThatKnows();
            x.seeds(1, seedOf(order));
            due("16: right by order 0 alone", order == 0 ? 1 : 0, () -> x.talk(0, 1, 1, 2, 3));
            due("3: order drawn", order, () -> x.note(4, 10));
            due("3: taken by order " + order, taken[order], () -> row(x, 4, 11, 13));
        }
    }

    /** Who says: of 0, 2, 3 and 5 (1 has left, 4 is elsewhere); who takes: of the others; then 4, 4 and 4. */
    private static void runByNumbers() {
        int[] there = {0, 2, 3, 5};
        for (int seed : new int[] {1, 2, 9, -5, Integer.MAX_VALUE, Integer.MIN_VALUE, 12345}) {
            YardTalk x = Yards.with("tttttt");
            x.leave(1);
            x.visit(4, 2);
            x.seeds(seed, 1);
            x.run(0, 6);
            int choice = seed;
            for (int i = 0; i < 6; i++) {
                int talk = i;
                choice = becomes(choice);
                int says = leaves(choice, 4);
                choice = becomes(choice);
                int takes = leaves(choice, 3);
                StringBuilder want = new StringBuilder();
                want.append(there[says]).append(" ").append(there[takes < says ? takes : takes + 1]);
                for (int k = 0; k < 3; k++) {
                    choice = becomes(choice);
                    want.append(" ").append(leaves(choice, 4));
                }
                due("17: from " + seed + " on, talk " + talk, want.toString(), () -> row(x, talk, 1, 5));
            }
            int last = choice;
            due("17: choice then", last, () -> x.count(11));
        }
    }

    private static void runOfTwoAmongMany() {
        YardTalk x = Yards.with("tttt");
        x.leave(0);
        x.leave(2);
        x.run(0, 40);
        due("17: 1 and 3 alone", true, () -> {
            boolean both = true;
            for (int talk = 0; talk < 40; talk++) {
                both &= x.note(talk, 1) + x.note(talk, 2) == 4 && x.note(talk, 1) % 2 == 1;
            }
            return both;
        });
        x.leave(3);
        int choice = x.count(11);
        due("17: one is no two", 0, () -> x.run(0, 40));
        due("17: nothing is drawn", choice, () -> x.count(11));
    }

    /** Held is order 5 by the one that took one talk. */
    private static void oneTalkOfATrial() {
        YardTalk x = Yards.with("ttt");
        int law = Check.law(x, "must 999;must 0 if talks=1;");
        due("30: no talk", 0, () -> x.trial(0, 0, law, 5));
        due("30: one talk", 1, () -> x.trial(0, 1, law, 5));
        x.force(law);
        due("31: one of two", 2, () -> x.fewest(0, 1, 50, 5));
        due("31: no talk, none", NONE, () -> x.fewest(0, 0, 1, 5));
        due("32: the second is needed", 2, () -> x.needed(0, 1, 5));
        due("32: not without a talk", 0, () -> x.needed(0, 0, 5));
        due("45: one of three is no half", 0, () -> x.odds(0, 1, 5, 20));
        x.leave(0);
        due("45: one of two is", 20, () -> x.odds(0, 1, 5, 20));
        due("45: not without a talk", 0, () -> x.odds(0, 0, 5, 20));
        YardTalk y = Yards.with("lltt");
        force(y, "must 999;must 0 if talks=1;");
        due("44: one talk", 1, () -> y.untaught(0, 1, 5));
        due("44: no talk", 0, () -> y.untaught(0, 0, 5));
    }

    /** What a trial of 200 talks tells is what 200 talks do. */
    private static void mostTalksOfATrial() {
        int[] held = new int[6];
        String law = "order 30;must 300;learn 40 if shown=1;";
        YardTalk x = Yards.with("tymlym");
        force(x, law);
        for (int order = 0; order < 6; order++) {
            held[order] = x.trial(0, 200, 0, order);
        }
        due("17: 200", 200, () -> x.run(0, 200));
        for (int i = 0; i < 6; i++) {
            int order = i;
            due("30: by 200 talks, order " + order, x.held(0, order), () -> held[order]);
        }
        // Took and said are 200 for both together, so one more or less than 200 is another number.
        YardTalk y = Yards.with("tt");
        int exact = Check.law(y, "must 999;must 0 if talks=100;");
        y.image();
        for (int seed = 1; seed < 60; seed++) {
            y.restore();
            y.image();
            y.seeds(seed, 1);
            int tried = y.trial(0, 200, exact, 5);
            y.force(exact);
            if (tried > 0) {
                y.run(0, 200);
                due("30: both took 100", "2 100 100", () -> y.held(0, 5) + " " + y.of(0, 4) + " " + y.of(1, 4));
                due("30: and so it was told", 2, () -> tried);
                return;
            }
        }
        due("30: a seed by which both take 100", "found", () -> "none");
    }

    private static void trialOfOneChild() {
        YardTalk one = Yards.with("t");
        force(one, "must 999;must 0 if talks=0;");
        due("30: one alone takes no talk", 1, () -> one.trial(0, 200, 0, 5));
        due("45: in no trial", 20, () -> one.odds(0, 200, 5, 20));
        YardTalk x = Yards.with("tl");
        x.run(0, 2);
        x.visit(1, 1);
        x.visit(0, 2);
        int took = x.of(0, 4);
        force(x, "must 999;must 0 if talks=" + took + ";");
        due("30: one child talks with nobody", 1, () -> x.trial(2, 200, 0, 5));
        due("45: nor does it in any", 20, () -> x.odds(2, 200, 5, 20));
        due("30: nobody", 0, () -> x.trial(0, 200, 0, 5));
        // Without the teacher there is one, and it talks with nobody.
        YardTalk y = Yards.with("tl");
        force(y, "must 999;must 0 if talks=0;");
        due("44: one is left", 1, () -> y.untaught(0, 200, 5));
        due("44: and none without it", 0, () -> {
            y.leave(1);
            return y.untaught(0, 200, 5);
        });
    }

    private static void asked(String what, Object want, YardTalk x, Check.Call call) {
        due("a trial with none in force", 1, () -> x.trial(0, 0, NONE, 0));
        due(what + ", by the LAW in force", want, call);
    }

    /** Whatever law was asked before, a call asks that in force. */
    private static void lawThatIsAsked() {
        YardTalk x = Yards.with("tl");
        x.set(1, 100);
        force(x, "must 501;learn 77;");
        asked("6: holds none", 0, x, () -> x.of(0, 6));
        asked("9: does not hold it", false, x, () -> x.holds(0, 0));
        asked("20: nobody", 0, x, () -> x.held(0, 0));
        asked("31: no such m", NONE, x, () -> x.fewest(0, 0, 1, 0));
        asked("32: needed for nobody", 0, x, () -> x.needed(0, 0, 0));
        asked("45: in none", 0, x, () -> x.odds(0, 0, 0, 20));
        asked("16: a talk", 0, x, () -> x.talk(0, 1, 3, 3, 3));
        due("16: learnt by it, twice", 154, () -> x.sign(1, 3, 3));
        due("21: none is the first", NONE, () -> x.first(0, 0));
        asked("17: a run", 20, x, () -> x.run(0, 20));
        due("21: none is the first", NONE, () -> x.first(0, 0));
        YardTalk y = Yards.with("ttl");
        force(y, "must 0;");
        asked2("44: a late one holds all", 1, y, () -> y.untaught(0, 0, 5));
    }

    private static void asked2(String what, Object want, YardTalk x, Check.Call call) {
        due("a trial with none in force", 0, () -> x.trial(0, 0, NONE, 5));
        due(what + ", by the LAW in force", want, call);
    }

    /** "right, shown are of that TALK (0 for HELD outside of one)": the latest talk was both. */
    private static void heldIsOutsideOfTalks() {
        YardTalk x = lateOneThatKnows();
        x.seeds(1, seedOf(0));
        due("16: right", 1, () -> x.talk(0, 1, 1, 2, 3));
        due("18: shown", 1, () -> x.note(4, 15));
        force(x, "must 999;must 500 if right=0 and shown=0;");
        due("9: holds", true, () -> x.holds(0, 0));
        due("6: one", 1, () -> x.of(0, 6));
        due("20: one", 1, () -> x.held(0, 0));
        due("30: behind a trial", 1, () -> x.trial(0, 20, x.count(5), 0));
    }

    private static void rightInALaw() {
        YardTalk y = Yards.with("tm");
        y.set(1, 100);
        force(y, "lose 0;learn 100;order 100;");
        y.talk(0, 1, 0, 0, 1);
        force(y, "lose right*3+shown*5;learn right*20+shown*40;order right*60+shown*7;");
        due("16: right", 1, () -> y.talk(0, 1, 0, 0, 1));
        due("4: learn 60", 160, () -> y.sign(1, 0, 0));
        due("4: lose 8", 2, () -> y.sign(1, 0, 5));
        due("4: order 67", 167, () -> y.order(1, 0));
        y.set(1, 0);
        due("16: right again", 1, () -> y.talk(0, 1, 0, 0, 1));
        due("4: not shown: learn 20", 180, () -> y.sign(1, 0, 0));
        due("4: lose 2 at most", 0, () -> y.sign(1, 0, 5));
        due("4: order 60", 227, () -> y.order(1, 0));
        due("16: person 2 it does not know", 0, () -> y.talk(0, 1, 2, 0, 1));
        due("4: neither", "180 227", () -> y.sign(1, 0, 0) + " " + y.order(1, 0));
        // A young one's rule is made in the talk, so its must knows of it.
        YardTalk z = Yards.with("ty");
        z.set(1, 100);
        force(z, "order 50;learn 100;lose 0;must 999;must 60 if right=1;");
        z.talk(0, 1, 0, 0, 1);
        due("3: no rule", 50, () -> z.order(1, 0));
        due("16: right", 1, () -> z.talk(0, 1, 0, 0, 1));
        due("3: a rule", 999, () -> z.order(1, 0));
    }

    /** A WEIGHT of 1 is above 0, and less by what is lost. */
    private static void weightsOfOne() {
        YardTalk x = Yards.with("tm");
        x.set(1, 100);
        force(x, "learn 1;lose 999;order 1;");
        x.talk(0, 1, 1, 1, 2);
        force(x, "learn 0;lose 0;order 0;");
        due("3: taken by weights of 1", 1, () -> x.talk(0, 1, 1, 1, 2));
        force(x, "learn 0;lose 1;order 0;");
        // A late one's own signs and drawn order are shown: all others lose.
        x.come(0, 15, false);
        x.seeds(1, seedOf(2));
        x.talk(2, 1, 1, 1, 2);
        due("3: 1 less 1", "0 0 0", () -> x.sign(1, 1, 1) + " " + x.sign(1, 5, 5) + " " + x.sign(1, 2, 2));
        due("3: of an order, too", 0, () -> x.order(1, 0));
    }

    private static void yardsOfWeightOne() {
        YardTalk x = Yards.with("tml");
        x.set(1, 100);
        force(x, "learn 1;lose 999;order 1;");
        x.talk(0, 1, 1, 1, 2);
        x.seeds(1, seedOf(4));
        x.talk(2, 1, 3, 3, 3);
        x.visit(1, 1);
        due("8: order 4 alone", "0 1", () -> x.order(1, 0) + " " + x.order(1, 4));
        due("38: a sum of 1", "1 5 2", () -> x.word(1, 1) + " " + x.word(1, 5) + " " + x.word(1, 2));
        x.leave(2);
        int signs = 0;
        for (int concept = 0; concept < 8; concept++) {
            signs += x.word(0, concept) == x.word(1, concept) ? 0 : 1;
        }
        int unlike = signs;
        due("33: an order of 1 is one", unlike + 1, () -> x.unlike(0, 1));
    }

    /** Child 0's 500 of order 0 are above child 1's 10 of order 2. */
    private static void orderOfAYard() {
        YardTalk x = Yards.with("tmlt");
        x.visit(3, 1);
        x.set(1, 100);
        x.seeds(1, seedOf(2));
        x.talk(2, 1, 0, 0, 0);
        x.leave(2);
        due("8: order 2 of 10", 10, () -> x.order(1, 2));
        due("33: order 0, and the teachers' signs", 0, () -> x.unlike(0, 1));
        due("40: alike", 1, () -> x.nearest(0));
        x.visit(0, 2);
        due("33: now order 2, and signs", 9, () -> x.unlike(0, 1));
    }

    private static void farthestYard() {
        YardTalk x = Yards.with("tml");
        x.visit(1, 1);
        x.visit(2, 1);
        x.set(1, 100);
        x.seeds(1, seedOf(3));
        x.talk(2, 1, 1, 1, 1);
        x.leave(2);
        due("33: all nine", 9, () -> x.unlike(0, 1));
        due("40: the only other one, however unlike", 1, () -> x.nearest(0));
        due("40: and back", 0, () -> x.nearest(1));
    }

    private static void lastYardGoesBack() {
        YardTalk x = Yards.with("tm");
        x.visit(0, 2);
        x.visit(1, 2);
        x.set(0, 10);
        for (int i = 0; i < 4; i++) {
            x.talk(0, 1, 3, 3, 2);
        }
        due("23: used", "4 4 4", () -> x.uses(2, 2) + " " + x.uses(2, 3) + " " + x.uses(2, 7));
        x.image();
        x.film();
        for (int i = 0; i < 5; i++) {
            x.talk(0, 1, 3, 3, 2);
        }
        x.talk(1, 0, 0, 0, 0);
        due("28: as it was", 6, () -> x.fits(0, NONE));
        x.restore();
        due("36: uses as then", "4 4 4", () -> x.uses(2, 2) + " " + x.uses(2, 3) + " " + x.uses(2, 7));
        due("36: no more", 0, () -> x.uses(2, 15) + x.uses(1, 3) + x.uses(0, 3));
        // Of two teachers in yard 2, act 4's and act 5's signs are used 8 times; the 9th and the 10th come by asking.
        YardTalk y = Yards.with("tt");
        y.visit(0, 2);
        y.visit(1, 2);
        y.set(0, 10);
        Yards.say(y, 9, 0, 1, 3, 0, 3);
        Yards.say(y, 10, 0, 1, 3, 1, 3);
        due("34: act 5 is seen as 4 if act 4 is said alone", 64, () -> y.meets(0, 1));
        due("24: not worn", 5, () -> y.seen(2, 5));
        y.talk(0, 1, 3, 0, 3);
        due("34: then it is no longer taken", 48, () -> y.meets(0, 1));
    }

    /** The law learns nothing, so what the child says of the one it was taught is unlike, at one place. */
    private static void filmUnlikeAtOnePlace() {
        int[][] said = {{0, 2, 2}, {2, 0, 2}, {2, 2, 0}};
        for (int i = 0; i < 3; i++) {
            int[] m = said[i];
            YardTalk x = Yards.with("tm");
            x.set(1, 100);
            int law = Check.law(x, "learn 0;lose 0;");
            x.film();
            Yards.say(x, 2, 0, 1, 0, 0, 0);
            x.talk(1, 0, m[0], m[1], m[2]);
            due("28: unlike at place " + i + " alone", 2, () -> x.fits(0, law));
            due("28: none is alike", 3, () -> x.fits(0, NONE));
            due("29: none alone", 64, () -> x.read());
            x.gap(0, 2);
            due("28: but for the gap", 3, () -> x.fits(0, law));
        }
        // What is said alike is alike, whatever is learnt.
        YardTalk y = Yards.with("tm");
        y.set(1, 100);
        int law = Check.law(y, "learn 0;lose 0;");
        y.film();
        Yards.say(y, 2, 0, 1, 0, 0, 0);
        y.talk(1, 0, 2, 2, 2);
        due("28: signs it was not taught", 3, () -> y.fits(0, law));
    }

    /** By the first draw the late one takes all by order 0; were CHANCE not to go back, others would come. */
    private static void meetsByOneChance() {
        YardTalk x = lateOneThatKnows();
        for (int i = 0; i < 6; i++) {
            int order = i;
            x.seeds(1, seedOf(order));
            due("34: by order " + order, metBy(order), () -> x.meets(0, 1));
            due("34: chance goes back", seedOf(order), () -> x.count(10));
        }
        due("34: all by order 0", 64, () -> metBy(0));
    }

    /** By order o, place by place: what was said there is taken if it is of the same sort, else it is 0. */
    private static int metBy(int order) {
        int[][] roles = {{0, 1, 2}, {0, 2, 1}, {1, 0, 2}, {1, 2, 0}, {2, 0, 1}, {2, 1, 0}};
        int met = 0;
        for (int meaning = 0; meaning < 64; meaning++) {
            int[] meant = {meaning / 16, meaning / 4 % 4, meaning % 4};
            boolean right = true;
            for (int place = 0; place < 3; place++) {
                int role = roles[order][place];
                boolean sameSort = (role == 1) == (place == 1);
                right &= meant[role] == (sameSort ? meant[place] : 0);
            }
            met += right ? 1 : 0;
        }
        return met;
    }

    /** Two young ones: behind one talk the one who took it holds the order that was drawn first. */
    private static void oddsByChance() {
        YardTalk x = Yards.with("yy");
        x.set(1, 100);
        force(x, "order 100;");
        x.seeds(-7, 99);
        for (int many : new int[] {1, 7, 20}) {
            for (int i = 0; i < 6; i++) {
                int order = i;
                int want = 0;
                for (int seed = 1; seed <= many; seed++) {
                    want += leaves(becomes(seed), 6) == order ? 1 : 0;
                }
                due("45: of " + many + ", order " + order, want, () -> x.odds(0, 1, order, many));
            }
        }
        due("45: choice and chance stay", "-7 99", () -> x.count(11) + " " + x.count(10));
    }

    /** 4 by 3, 3 by 2, 2 by 1, 1 by 2: the first that came already is 2, so the last one is 1. */
    private static void rootsRoundASide() {
        YardTalk x = Yards.with("tmmmmm");
        x.set(1, 100);
        for (int child = 1; child < 6; child++) {
            x.talk(0, child, 0, 0, 0);
        }
        Yards.say(x, 2, 3, 4, 0, 0, 0);
        Yards.say(x, 2, 2, 3, 0, 0, 0);
        Yards.say(x, 2, 1, 2, 0, 0, 0);
        Yards.say(x, 2, 2, 1, 0, 0, 0);
        int[] roots = {0, 2, 1, 1, 1, 0};
        for (int i = 0; i < 6; i++) {
            int child = i;
            due("43: of " + child, roots[child], () -> x.root(child, 0));
        }
        Yards.say(x, 2, 4, 5, 0, 0, 0);
        due("43: one step more", 1, () -> x.root(5, 0));
        Yards.say(x, 3, 3, 2, 0, 0, 0);
        due("43: 2 by 3 now, 3 by 2", 2, () -> x.root(3, 0));
        due("43: from 4: 3, and 2", 2, () -> x.root(4, 0));
        due("43: from 5: 4, 3, and 2", 2, () -> x.root(5, 0));
        due("43: from 1: 2, and 3", 3, () -> x.root(1, 0));
    }

    /** The yard's signs for person 0 and act 4 are 0 and 1, both are worn: they are seen as one, yet not BLURRED. */
    private static void personsAndActsAreNotBlurred() {
        YardTalk x = Yards.with("mm");
        x.set(0, 10);
        force(x, "learn 0;lose 0;");
        Yards.say(x, 10, 0, 1, 0, 0, 0);
        Yards.say(x, 10, 1, 0, 0, 0, 0);
        due("38: signs of the yard", "0 1", () -> x.word(0, 0) + " " + x.word(0, 4));
        due("24: seen as one", "0 0", () -> x.seen(0, 0) + " " + x.seen(0, 1));
        due("39: not blurred", 0, () -> x.blurred(0, NONE));
        due("39: nor any pair", NONE, () -> x.blurred(0, 0));
        // Signs 3 and 2, for person 1 and act 6.
        YardTalk y = Yards.with("mm");
        y.set(0, 10);
        force(y, "learn 0;lose 0;");
        Yards.say(y, 10, 0, 1, 1, 2, 1);
        due("38: signs of the yard", "3 2", () -> y.word(0, 1) + " " + y.word(0, 6));
        due("24: seen as one", "2 2", () -> y.seen(0, 2) + " " + y.seen(0, 3));
        due("39: not blurred", 0, () -> y.blurred(0, NONE));
    }

    private static void text(String text, String want) {
        due("4: '" + text + "'", want, () -> {
            YardTalk x = new YardTalk();
            return Check.law(x, text) + " " + x.fault();
        });
    }

    /** With any letter of a word changed, left out or doubled it cannot stand there. */
    private static void lettersOfWords() {
        String[] texts = {"@learn 5;", "@order 5;", "@lose 5;", "@must 5;", "must 5 @if 1=1;", "must @age;",
            "must @there;", "must @right;", "must @shown;", "must @weight;", "must @talks;", "must @least(1,2);",
            "must @most(1,2);", "must 5 if 1=1 @or 1=1;", "must 5 if 1=1 @and 1=1;", "must 5 if @not 1=1;"};
        for (String marked : texts) {
            int at = marked.indexOf('@');
            String sound = marked.replace("@", "");
            int end = at;
            while (end < sound.length() && sound.charAt(end) >= 'a' && sound.charAt(end) <= 'z') {
                end++;
            }
            text(sound, "0 -1");
            for (int i = at; i < end; i++) {
                char next = (char) ('a' + (sound.charAt(i) - 'a' + 13) % 26);
                text(sound.substring(0, i) + next + sound.substring(i + 1), "-9 " + at);
                text(sound.substring(0, i) + sound.charAt(i) + sound.substring(i), "-9 " + at);
                if (end - at > 2) {
                    text(sound.substring(0, i) + sound.substring(i + 1), "-9 " + at);
                }
            }
            text(sound.substring(0, end) + "s" + sound.substring(end), "-9 " + at);
            text(sound.substring(0, at) + Character.toUpperCase(sound.charAt(at)) + sound.substring(at + 1), "-9 " + at);
        }
    }

    /** Their ( is one of those that are open, till its ). */
    private static void openInLeastAndMost() {
        text("must least((((((1))))),1);", "0 -1");
        text("must least(((((((1)))))),1);", "-7 16");
        text("must least(1,(((((1))))));", "0 -1");
        text("must least(1,((((((1)))))));", "-7 18");
        text("must most(1,most(1,most(1,most(1,most(1,most(1,1))))));", "0 -1");
        text("must most(1,most(1,most(1,most(1,most(1,most(1,most(1,1)))))));", "-7 51");
        text("must least(least(least(least(least(least(1,1),1),1),1),1),1);", "0 -1");
        text("must least(least(least(least(least(least(least(1,1),1),1),1),1),1),1);", "-7 46");
        text("must least(1,1)+least(1,1)+least(1,1)+least(1,1)+most(1,1)+most(1,1)+most(1,1);", "0 -1");
        text("must ((((((least 3", "-9 17");
        text("must ((((((most)))))));", "-9 15");
        text("must 1 if not [not [not least(1,1)=1]];", "0 -1");
        text("must 1 if not [not [not [least(1,1)=1]]];", "-7 30");
        text("must 1 if not [not [not (1)=1]];", "0 -1");
        text("must 1 if not [not [not [(1)=1]]];", "-7 25");
        text("must 1 if not [not [not [1=1]]] and not [not [not [(1)=1]]];", "-7 51");
        text("must 1 if not [not [not [1=1]]] and not [not [not 1=1]];", "0 -1");
    }

    /** Of a text with a fault nothing stays, however often. */
    private static void faultyLawsLeaveRoom() {
        YardTalk x = Yards.with("t");
        for (int i = 0; i < 5; i++) {
            due("13: too early an end", -9, () -> Check.law(x, "must 1" + "+1".repeat(147)));
        }
        due("13: a law", 0, () -> Check.law(x, "must 356" + "+1".repeat(145) + ";"));
        x.force(0);
        due("9: 500 is below 501", false, () -> x.holds(0, 0));
        due("13: a fault", -9, () -> Check.law(x, "must 1" + "+1".repeat(147)));
        due("13: another law", 1, () -> Check.law(x, "must 499 if not 1=2;"));
        x.force(1);
        due("9: 500 is above 499", true, () -> x.holds(0, 0));
        x.force(0);
        due("9: the first law is as it was", false, () -> x.holds(0, 0));
    }

    /** 24 in one yard: each even one a teacher, each odd one late. */
    private static void fullYard() {
        YardTalk x = Yards.with("tl".repeat(12));
        due("3: there are 24", -1, () -> x.come(0, 0, false));
        due("47: there", 24, () -> x.count(2));
        due("20: hold", 12, () -> x.held(0, 0));
        due("30: all of them", 12, () -> x.trial(0, 200, NONE, 0));
        due("31: half of each couple", 2, () -> x.fewest(0, 200, 50, 0));
        due("31: one of two is the most", NONE, () -> x.fewest(0, 0, 67, 0));
        due("32: without LAW", 0, () -> x.needed(0, 200, 0));
        due("44: without the teachers", 0, () -> x.untaught(0, 200, 0));
        due("45: half of them", 20, () -> x.odds(0, 200, 0, 20));
        due("38: the teachers' signs", "0 7", () -> x.word(0, 0) + " " + x.word(0, 7));
        due("39: none", 0, () -> x.blurred(0, NONE));
        due("33: itself", 0, () -> x.unlike(0, 0));
        due("40: no other", NONE, () -> x.nearest(0));
        due("34: teachers", 64, () -> x.meets(0, 22));
        for (int i = 0; i < 6; i++) {
            int order = i;
            due("41: none yet", NONE, () -> x.since(23, order));
            due("41: nor the one ahead", NONE, () -> x.since(22, order));
        }
        x.visit(23, 1);
        due("38: 23's signs", "3 8", () -> x.word(1, 0) + " " + x.word(1, 7));
        due("33: all signs, no order", 8, () -> x.unlike(0, 1));
        due("40: the other yard", 1, () -> x.nearest(0));
        due("17: 200", 200, () -> x.run(0, 200));
        due("5: it was in yard 1", 1, () -> x.visit(23, 0));
        due("4: leaves", 1, () -> x.leave(23));
        due("47: there", 23, () -> x.count(2));
        due("3: none can come for it", -1, () -> x.come(0, 0, false));
    }

    private static void lastOfAllChildren() {
        YardTalk x = Yards.with("tttttttttttttttttttttmty");
        x.set(1, 100);
        force(x, "order 100;learn 100;");
        x.talk(0, 23, 3, 3, 3);
        due("7: the last sign but eight", 100, () -> x.sign(23, 7, 7));
        due("7: a person's", 200, () -> x.sign(23, 3, 3));
        due("8: a rule", 999, () -> x.order(23, 0));
        due("42: by 0", 0, () -> x.taught(23, 0));
        due("41: since", 0, () -> x.since(23, 0));
        due("22: the talk", 0, () -> x.back(23, 0, 0));
        x.talk(23, 21, 3, 3, 3);
        due("42: by 23", 23, () -> x.taught(21, 0));
        due("43: by 23, by 0", 0, () -> x.root(21, 0));
        due("21: the first is who took it first", 23, () -> x.first(0, 0));
        due("8: all others' are none", 0, () -> x.order(23, 1) + x.order(23, 5));
        due("37: its signs for persons 0 and 3 are one", 16, () -> x.plain(23));
    }

    /** What one concept or one child learns changes nothing of the next one. */
    private static void neighboursStay() {
        YardTalk x = Yards.with("tytm");
        x.set(1, 100);
        force(x, "order 100;lose 5;");
        x.talk(0, 1, 0, 0, 1);
        due("3: a rule", 999, () -> x.order(1, 0));
        due("8: the next child's order", 500, () -> x.order(2, 0));
        due("8: the one ahead of it", 500, () -> x.order(0, 0));
        // Child 2 has sign 0 for person 2: person 1 is learnt beside it.
        YardTalk y = Yards.with("ttm");
        y.set(1, 100);
        force(y, "lose 5;");
        y.talk(0, 2, 1, 3, 1);
        due("7: person 1's own sign loses", 0, () -> y.sign(2, 1, 13));
        due("7: person 2's stays", 10, () -> y.sign(2, 2, 0));
        due("7: person 0's stays", 10, () -> y.sign(2, 0, 10));
        due("7: act 6's stays", 10, () -> y.sign(2, 6, 12));
        // Sign 0 has more for person 1 than any sign for person 0.
        YardTalk z = Yards.with("tttm");
        z.set(1, 100);
        z.set(0, 10);
        Yards.say(z, 10, 0, 1, 0, 0, 1);
        Yards.say(z, 4, 0, 3, 1, 0, 1);
        for (int child = 0; child < 3; child++) {
            z.leave(child);
        }
        due("7: of sign 0 for person 1", true, () -> z.sign(3, 1, 0) > z.sign(3, 0, 15));
        due("38: person 0's sign", 15, () -> z.word(0, 0));
        due("38: person 1's is seen as 0", 0, () -> z.word(0, 1));
    }

    private static void yardsOfNobody() {
        YardTalk x = Yards.with("tt");
        x.visit(1, 1);
        int[][] none = {{0, 2}, {2, 0}, {1, 2}, {2, 1}, {2, 2}};
        for (int[] n : none) {
            due("33: nobody in " + n[0] + " or " + n[1], NONE, () -> x.unlike(n[0], n[1]));
        }
        due("33: both", 0, () -> x.unlike(0, 1));
        due("33: both, the other way", 0, () -> x.unlike(1, 0));
        x.leave(0);
        due("33: it has left", NONE, () -> x.unlike(0, 1));
        due("33: it has left, the other way", NONE, () -> x.unlike(1, 0));
        due("40: in no other one", NONE, () -> x.nearest(1));
        due("38: nobody", NONE, () -> x.word(0, 0));
        due("39: nobody", NONE, () -> x.blurred(0, NONE));
        due("39: nobody's first", NONE, () -> x.blurred(0, 0));
    }

    /** Of 9 and 13 the yard's signs are 1, 0, 3 and 6 for persons 0 to 3: that of person 0 is the greater one. */
    private static void blurredByTheGreaterSign() {
        YardTalk x = Yards.with("llllllllllllll");
        for (int child = 0; child < 13; child++) {
            x.visit(child, child == 9 ? 0 : 1);
        }
        x.set(0, 10);
        force(x, "learn 0;lose 0;");
        due("38: signs", "1 0", () -> x.word(0, 0) + " " + x.word(0, 1));
        for (int i = 0; i < 5; i++) {
            due("39: not yet", 0, () -> x.blurred(0, NONE));
            x.talk(9, 13, 1, 0, 1);
            x.talk(13, 9, 0, 0, 0);
        }
        due("24: seen as one", "0 0", () -> x.seen(0, 0) + " " + x.seen(0, 1));
        due("38: signs stay", "1 0", () -> x.word(0, 0) + " " + x.word(0, 1));
        due("39: persons 0 and 1", "1 1", () -> x.blurred(0, NONE) + " " + x.blurred(0, 0));
        due("39: there alone", 0, () -> x.blurred(1, NONE));
    }

    /** "Of those THERE in a YARD the first m": those elsewhere and those that left are none of them. */
    private static void fewestOfTheYard() {
        YardTalk x = Yards.with("lltttl");
        x.visit(0, 1);
        x.leave(1);
        x.visit(3, 2);
        due("31: 2 and 4", 2, () -> x.fewest(0, 0, 100, 0));
        due("31: 2 and 4, who talk", 2, () -> x.fewest(0, 200, 100, 0));
        due("31: one alone", NONE, () -> x.fewest(1, 0, 1, 0));
        due("31: one teacher alone", NONE, () -> x.fewest(2, 0, 100, 0));
    }

    /** Child 0 has no sign for person 1 and for act 4, and sign 0 for person 0, when 0 and 1 are worn. */
    private static void noSignIsNotSeenAsOne() {
        YardTalk x = Yards.with("mtt");
        x.set(1, 100);
        x.set(0, 10);
        force(x, "learn 0;lose 999;");
        x.talk(1, 0, 1, 0, 1);
        Yards.say(x, 10, 1, 2, 0, 0, 1);
        due("24: worn", 0, () -> x.seen(0, 1));
        due("7: none", 0, () -> x.sign(0, 1, 1) + x.sign(0, 1, 3) + x.sign(0, 4, 4) + x.sign(0, 4, 12));
        due("37: NONE is another thing than 0", 64, () -> x.plain(0));
    }

    /** "1 more for each SIGN it used, and for its ORDER (but a LATE one)": by order 2 all is taken as 0 0 0. */
    private static void lateOnesAreRight() {
        YardTalk x = Yards.with("tml");
        x.set(1, 100);
        force(x, "learn 0;lose 0;");
        x.talk(0, 1, 0, 0, 0);
        x.seeds(1, seedOf(2));
        due("16: right by another order", 1, () -> x.talk(1, 2, 0, 0, 0));
        due("18: orders 0 and 2", "0 2", () -> x.note(1, 6) + " " + x.note(1, 10));
        due("3: 1 more for the order of who said it", "11 0", () -> x.order(1, 0) + " " + x.order(1, 2));
        x.seeds(1, seedOf(2));
        due("16: a late one's is right", 1, () -> x.talk(2, 0, 0, 0, 0));
        due("18: orders 2 and 0", "2 0", () -> x.note(2, 6) + " " + x.note(2, 10));
        due("3: none for a late one's order", 0, () -> x.order(2, 2) + x.order(2, 0));
        due("3: for its signs, place by place", "12 11", () -> x.sign(2, 0, 10) + " " + x.sign(2, 4, 6));
        due("3: none for a teacher", "500 500", () -> x.sign(0, 0, 0) + " " + x.order(0, 0));
    }

    /** Acts 2 and 3 have signs 6 and 7, persons 0 and 0 sign 0. */
    private static void actsThatAreNotPlain() {
        YardTalk x = Yards.with("tt");
        x.set(0, 10);
        Yards.say(x, 10, 0, 1, 0, 2, 0);
        Yards.say(x, 9, 0, 1, 0, 3, 0);
        due("37: sign 7 is not worn", 64, () -> x.plain(0));
        x.talk(0, 1, 0, 3, 0);
        due("37: acts 0 and 1 alone", 32, () -> x.plain(0));
    }

    /** Two yards of teachers are alike, the third is not. */
    private static void nearestOfEachYard() {
        for (int i = 0; i < 3; i++) {
            int odd = i;
            YardTalk x = Yards.with("ttm");
            int one = odd == 0 ? 1 : 0;
            int other = odd == 2 ? 1 : 2;
            x.visit(0, one);
            x.visit(1, other);
            x.visit(2, odd);
            due("40: nearest to " + one, other, () -> x.nearest(one));
            due("40: nearest to " + other, one, () -> x.nearest(other));
            due("40: the first of two", one, () -> x.nearest(odd));
        }
    }

    /** Child 1 has 20 of sign 2 for person 2, 40 of sign 3 for person 3; 2 is a teacher that learns nothing. */
    private static YardTalk twoPersonsLearnt() {
        YardTalk x = Yards.with("tmt");
        x.set(0, 10);
        x.set(1, 100);
        force(x, "learn 10;lose 0;");
        x.talk(0, 1, 2, 0, 2);
        x.talk(0, 1, 3, 0, 3);
        x.talk(0, 1, 3, 0, 3);
        return x;
    }

    private static void evenSignOfACouple() {
        YardTalk x = twoPersonsLearnt();
        Yards.say(x, 9, 0, 2, 2, 1, 3);
        due("24: both are worn", 2, () -> x.seen(0, 3));
        due("3: sign 2 with what it has of sign 3", 0, () -> x.talk(0, 1, 2, 0, 2));
        due("3: person 3 of 40", "3 0 3", () -> row(x, 12, 11, 13));
    }

    private static void evenSignBehindACouple() {
        YardTalk x = twoPersonsLearnt();
        Yards.say(x, 10, 0, 2, 0, 1, 1);
        due("24: 0 and 1 are worn", 0, () -> x.seen(0, 1));
        due("24: 2 and 3 are not", 3, () -> x.seen(0, 3));
        due("3: sign 2 alone", 1, () -> x.talk(0, 1, 2, 0, 2));
        due("3: person 2 of 20", "2 0 2", () -> row(x, 13, 11, 13));
    }

    /** Behind the first talk its order 0 weighs 40, behind the second 80. */
    private static void ruleByItsWeight() {
        for (int weight = 39; weight <= 41; weight++) {
            YardTalk x = Yards.with("ty");
            x.set(1, 100);
            force(x, "order 40;must 999;must 1 if weight=" + weight + ";");
            x.talk(0, 1, 0, 0, 0);
            due("4: a rule if 40 is " + weight, weight == 40 ? 999 : 40, () -> x.order(1, 0));
        }
    }

    /** The seed that becomes this number by one draw. */
    private static int seedAhead(int next) {
        int inverse = 1;
        for (int i = 0; i < 5; i++) {
            inverse *= 2 - inverse * 1103515245;
        }
        return (next - 12345) * inverse;
    }

    /** A late one's order is a draw of 6 of CHANCE; who says of three is a draw of 3 of CHOICE. */
    private static void bitsOfDraws() {
        int[] next = {0x0002ffff, 0x00020000, 0x8002ffff, 0x80020000, 0x7fffffff, 0xffffffff, 0x7fff0000};
        int[] ofSix = {2, 2, 2, 2, 1, 1, 1};
        int[] ofThree = {2, 2, 2, 2, 1, 1, 1};
        for (int i = 0; i < next.length; i++) {
            int k = i;
            YardTalk x = Yards.with("ltt");
            x.seeds(1, seedAhead(next[k]));
            x.talk(0, 1, 0, 0, 0);
            due("1: bits 16 to 30 of CHANCE", ofSix[k], () -> x.note(0, 6));
            YardTalk y = Yards.with("ttt");
            y.seeds(seedAhead(next[k]), 1);
            y.run(0, 1);
            due("1: bits 16 to 30 of CHOICE", ofThree[k], () -> y.note(0, 1));
        }
    }

    /** Of the couple 2 and 3, child 1 has sign 3 for person 3 alone, with 1; its own sign for act 1 is 4. */
    private static void weightsTogetherOfOne() {
        YardTalk x = Yards.with("tmt");
        x.set(0, 10);
        x.set(1, 100);
        force(x, "learn 1;lose 0;");
        x.talk(0, 1, 3, 0, 1);
        Yards.say(x, 10, 0, 2, 2, 1, 3);
        due("7: a weight of 1", 1, () -> x.sign(1, 3, 3));
        x.talk(0, 1, 2, 0, 1);
        due("3: 1 is more than 0", "3 1 1", () -> row(x, 11, 11, 13));
    }

    /** As in farthestYard yard 1 is unlike in all; child 3's eight signs are other ones, too, but it has no order. */
    private static void nearerByOne() {
        YardTalk x = Yards.with("tmlm");
        x.visit(1, 1);
        x.visit(2, 1);
        x.visit(3, 2);
        x.set(1, 100);
        x.seeds(1, seedOf(3));
        x.talk(2, 1, 1, 1, 1);
        x.leave(2);
        due("33: all nine", 9, () -> x.unlike(0, 1));
        due("33: all but the order", 8, () -> x.unlike(0, 2));
        due("40: nearer by one", 2, () -> x.nearest(0));
    }

    /** The young one holds order 0 by 999 once it has taken a talk; the teacher's 500 is not enough for that. */
    private static void oddsByChoice() {
        YardTalk x = Yards.with("ty");
        x.set(1, 100);
        force(x, "order 999;must 600;");
        int found = 0;
        for (int many = 1; many <= 20; many++) {
            int trials = many;
            found += leaves(becomes(many), 2) == 0 ? 1 : 0;
            int want = found;
            due("45: the teacher says in the first of " + many, want, () -> x.odds(0, 1, 0, trials));
        }
    }

    /** Child 1 has 10 of its own signs 5, 1 and 8 for person 0, act 0 and person 1; what it learns are 0, 4 and 1. */
    private static void signsByOne() {
        for (int w = 9; w <= 11; w++) {
            int weight = w;
            YardTalk x = Yards.with("tm");
            x.set(1, 100);
            force(x, "learn " + weight + ";lose 0;");
            x.talk(0, 1, 0, 0, 1);
            x.visit(0, 1);
            due("38: the lesser sign by " + weight, weight >= 10 ? 0 : 5, () -> x.word(0, 0));
            due("38: the greater sign by " + weight, weight > 10 ? 4 : 1, () -> x.word(0, 4));
            x.visit(1, 1);
            x.talk(1, 0, 0, 0, 1);
            String signs = (weight >= 10 ? "0 " : "5 ") + (weight > 10 ? "4 " : "1 ") + (weight >= 10 ? "1" : "8");
            due("2: its signs by " + weight, signs, () -> row(x, 1, 7, 9));
        }
    }

    /** Child 1 has 40 of order 0, and of order 2 as much, one less, or one more; so has its yard. */
    private static void ordersByOne() {
        for (int w = 39; w <= 41; w++) {
            int weight = w;
            YardTalk x = Yards.with("tmlt");
            x.visit(3, 1);
            x.set(1, 100);
            force(x, "learn 0;order 40;lose 0;");
            x.talk(0, 1, 0, 0, 0);
            force(x, "learn 0;order " + weight + ";lose 0;");
            x.seeds(1, seedOf(2));
            x.talk(2, 1, 0, 0, 0);
            due("8: the other's weight", weight, () -> x.order(1, 2));
            x.leave(0);
            x.leave(2);
            due("33: all signs, and the order if it is above", weight > 40 ? 9 : 8, () -> x.unlike(0, 1));
            x.visit(3, 0);
            x.talk(1, 3, 0, 0, 0);
            due("2: its order by " + weight, weight > 40 ? 2 : 0, () -> x.note(2, 6));
        }
    }
}
