/** Each promise of the document: ordinary inputs, the edges it names, wrong inputs. All answers are worked by hand. */
public final class PromisesTest {
    private static final int NONE = YardTalk.NONE;
    private static final Check check = new Check();

    public static void main(String[] args) {
        newObject();
        seeds();
        come();
        leave();
        visit();
        of();
        sign();
        order();
        holds();
        set();
        years();
        feed();
        law();
        fault();
        force();
        talkNotRight();
        talkRight();
        talkOfLateOnes();
        talkOfYoungOnes();
        talkRefused();
        talkWithWornSigns();
        run();
        runToTheEnd();
        note();
        share();
        held();
        first();
        back();
        uses();
        seen();
        film();
        filmEnds();
        end();
        gap();
        fits();
        read();
        trial();
        fewest();
        needed();
        unlike();
        meets();
        image();
        restore();
        plain();
        word();
        blurred();
        nearest();
        since();
        taught();
        root();
        untaught();
        odds();
        right();
        count();
        check.end();
    }

    private static void due(String what, Object want, Check.Call call) {
        check.due(what, want, call);
    }

    private static void illegal(String what, Check.Call call) {
        check.throwsIllegal(what, call);
    }

    private static void noChild(String what, Check.Call call) {
        check.throwsNoChild(what, call);
    }

    private static void outside(String what, Check.Call call) {
        check.throwsOutside(what, call);
    }

    /** Of yard 0: "t" is a teacher, "y" a young one (5), "m" a middle one (8), "l" a late one (15). */
    private static YardTalk with(String kinds) {
        YardTalk x = new YardTalk();
        for (int i = 0; i < kinds.length(); i++) {
            char kind = kinds.charAt(i);
            x.come(0, kind == 'y' ? 5 : kind == 'm' ? 8 : 15, kind == 't');
        }
        return x;
    }

    private static void say(YardTalk x, int many, int says, int takes, int... meaning) {
        for (int i = 0; i < many; i++) {
            x.talk(says, takes, meaning[0], meaning[1], meaning[2]);
        }
    }

    private static void newObject() {
        YardTalk x = new YardTalk();
        due("1: no film is on", -1, () -> x.end());
        due("1: nor counted", NONE, () -> x.count(7));
        due("1: a film begins", 0, () -> x.film());
        due("1: no image", -1, () -> x.restore());
        due("1: no law in force", NONE, () -> x.count(5));
        due("1: year", 0, () -> x.count(0));
        due("1: children", 0, () -> x.count(1));
        due("1: chance", 1, () -> x.count(10));
        due("1: choice", 1, () -> x.count(11));
        due("1: wear", 1000, () -> x.set(0, 10));
        due("1: point", 50, () -> x.set(1, 0));
    }

    private static void seeds() {
        YardTalk x = with("tt");
        x.film();
        x.seeds(7, -9);
        due("2: chance", -9, () -> x.count(10));
        due("2: choice", 7, () -> x.count(11));
        due("2: ends a film", NONE, () -> x.count(7));
        x.seeds(1, 1);
        x.talk(0, 1, 0, 0, 0);
        due("2: a draw of chance", 1103527590, () -> x.count(10));
        due("2: choice is not drawn", 1, () -> x.count(11));
    }

    private static void come() {
        YardTalk x = new YardTalk();
        illegal("3: yard -1", () -> x.come(-1, 5, false));
        illegal("3: yard 3", () -> x.come(3, 5, false));
        illegal("3: age -1", () -> x.come(0, -1, false));
        illegal("3: age 21", () -> x.come(0, 21, true));
        for (int i = 0; i < 24; i++) {
            int number = i;
            due("3: number", number, () -> x.come(number % 3, number % 21, number == 23));
        }
        x.film();
        due("3: 24 are there", -1, () -> x.come(0, 5, false));
        due("3: a film goes on", 0, () -> x.count(7));
        illegal("3: wrong even if full", () -> x.come(0, 21, false));
        due("3: the yard", 2, () -> x.of(20, 0));
        due("3: the age", 20, () -> x.of(20, 1));
        x.leave(3);
        due("3: those that left count", -1, () -> x.come(0, 5, false));
    }

    private static void leave() {
        YardTalk x = with("tt");
        noChild("4: none", () -> x.leave(2));
        noChild("4: below", () -> x.leave(-1));
        x.film();
        due("4: leaves", 1, () -> x.leave(1));
        due("4: ends a film", NONE, () -> x.count(7));
        x.film();
        due("4: has left", 0, () -> x.leave(1));
        due("4: nothing done", 0, () -> x.count(7));
        due("4: not there", 0, () -> x.of(1, 3));
        due("4: the number stays", 2, () -> x.count(1));
        due("4: one is there", 1, () -> x.count(2));
        due("4: no talks of one", 0, () -> x.run(0, 5));
    }

    private static void visit() {
        YardTalk x = with("tt");
        noChild("5: none", () -> x.visit(2, 9));
        illegal("5: yard 3", () -> x.visit(1, 3));
        illegal("5: yard -1", () -> x.visit(1, -1));
        due("5: goes", 0, () -> x.visit(1, 2));
        due("5: is there", 2, () -> x.of(1, 0));
        x.film();
        due("5: goes where it is", 2, () -> x.visit(1, 2));
        due("5: that too ends a film", NONE, () -> x.count(7));
        x.leave(1);
        due("5: has left", -1, () -> x.visit(1, 0));
        due("5: stays", 2, () -> x.of(1, 0));
        illegal("5: wrong even if it has left", () -> x.visit(1, 3));
    }

    private static void of() {
        YardTalk x = new YardTalk();
        int[] ages = {0, 6, 7, 11, 12, 20};
        int[] kinds = {0, 0, 1, 1, 2, 2};
        for (int i = 0; i < 6; i++) {
            int child = i;
            x.come(1, ages[i], false);
            due("6: kind by age " + ages[i], kinds[i], () -> x.of(child, 2));
        }
        x.come(1, 3, true);
        due("6: teacher", 3, () -> x.of(6, 2));
        x.years(7);
        x.come(1, 3, false);
        x.years(2);
        due("6: age now", 9, () -> x.of(0, 1));
        due("6: of one who came later", 5, () -> x.of(7, 1));
        due("6: the kind stays", 0, () -> x.of(0, 2));
        due("6: yard", 1, () -> x.of(0, 0));
        due("6: there", 1, () -> x.of(0, 3));
        x.talk(6, 0, 0, 0, 0);
        x.talk(0, 6, 0, 0, 0);
        x.talk(6, 1, 0, 0, 0);
        due("6: took", 1, () -> x.of(0, 4));
        due("6: said", 1, () -> x.of(0, 5));
        due("6: teacher took", 1, () -> x.of(6, 4));
        due("6: teacher said", 2, () -> x.of(6, 5));
        due("6: teacher holds", 1, () -> x.of(6, 6));
        due("6: late one holds", 0, () -> x.of(5, 6));
        x.force(Check.law(x, "must 0;"));
        due("6: holds all", 6, () -> x.of(5, 6));
        illegal("6: what 7", () -> x.of(0, 7));
        illegal("6: what -1", () -> x.of(0, -1));
        noChild("6: none", () -> x.of(8, 7));
    }

    private static void sign() {
        YardTalk x = with("ttm");
        due("7: a teacher's", 500, () -> x.sign(1, 7, 7));
        due("7: no other", 0, () -> x.sign(1, 7, 6));
        for (int c = 0; c < 8; c++) {
            int concept = c;
            due("7: all others'", 10, () -> x.sign(2, concept, (10 + 3 * concept) % 16));
            due("7: the next one", 0, () -> x.sign(2, concept, (11 + 3 * concept) % 16));
        }
        noChild("7: none", () -> x.sign(3, 8, 0));
        illegal("7: concept 8", () -> x.sign(0, 8, 0));
        illegal("7: concept -1", () -> x.sign(0, -1, 0));
        illegal("7: sign 16", () -> x.sign(0, 0, 16));
        illegal("7: sign -1", () -> x.sign(0, 0, -1));
    }

    private static void order() {
        YardTalk x = with("tm");
        due("8: a teacher's", 500, () -> x.order(0, 0));
        due("8: its others", 0, () -> x.order(0, 5));
        due("8: all others'", 0, () -> x.order(1, 0));
        noChild("8: none", () -> x.order(2, 6));
        illegal("8: order 6", () -> x.order(0, 6));
        illegal("8: order -1", () -> x.order(0, -1));
    }

    private static void holds() {
        YardTalk x = with("tm");
        due("9: 500 is 100 or more", true, () -> x.holds(0, 0));
        due("9: 0 is not", false, () -> x.holds(0, 1));
        x.force(Check.law(x, "must 500;"));
        due("9: must or more", true, () -> x.holds(0, 0));
        x.force(Check.law(x, "must 501;"));
        due("9: below must", false, () -> x.holds(0, 0));
        x.force(Check.law(x, "must weight+right+shown+talks;"));
        due("9: right and shown are 0, no talk taken", true, () -> x.holds(0, 0));
        x.talk(1, 0, 0, 0, 0);
        due("9: a talk taken", false, () -> x.holds(0, 0));
        YardTalk y = new YardTalk();
        y.come(0, 20, true);
        y.force(Check.law(y, "must 999 if age>20;"));
        due("9: at 20", true, () -> y.holds(0, 0));
        y.years(1);
        due("9: at 21, its AGE now", false, () -> y.holds(0, 0));
        noChild("9: none", () -> x.holds(2, 6));
        illegal("9: order 6", () -> x.holds(1, 6));
        illegal("9: order -1", () -> x.holds(1, -1));
    }

    private static void set() {
        YardTalk x = new YardTalk();
        illegal("10: wear 9", () -> x.set(0, 9));
        illegal("10: wear 10001", () -> x.set(0, 10001));
        illegal("10: point -1", () -> x.set(1, -1));
        illegal("10: point 101", () -> x.set(1, 101));
        illegal("10: what 2", () -> x.set(2, 50));
        illegal("10: what -1", () -> x.set(-1, 50));
        x.film();
        due("10: wear", 1000, () -> x.set(0, 10));
        due("10: ends a film", NONE, () -> x.count(7));
        x.film();
        due("10: wear again", 10, () -> x.set(0, 10));
        due("10: as it was, and ends a film", NONE, () -> x.count(7));
        due("10: greatest", 10, () -> x.set(0, 10000));
        due("10: point", 50, () -> x.set(1, 100));
        due("10: point again", 100, () -> x.set(1, 0));
    }

    private static void years() {
        YardTalk x = new YardTalk();
        illegal("11: -1", () -> x.years(-1));
        illegal("11: 61", () -> x.years(61));
        due("11: 60 at once", 60, () -> new YardTalk().years(60));
        due("11: 0", 0, () -> x.years(0));
        due("11: 20", 20, () -> x.years(20));
        due("11: to the last", 60, () -> x.years(40));
        due("11: beyond", "throws.IllegalStateException", () -> x.years(1));
        x.film();
        due("11: none", 60, () -> x.years(0));
        due("11: ends a film", NONE, () -> x.count(7));
        illegal("11: 61 beyond", () -> x.years(61));
    }

    private static void feed() {
        YardTalk x = new YardTalk();
        for (int i = 1; i <= 15; i++) {
            due("12: bytes", 20 * i, () -> x.feed(0, 0, 0, 0, 0));
        }
        due("12: full", NONE, () -> x.feed(1, 1, 1, 1, 1));
        due("12: nothing done", 300, () -> x.count(9));
        due("12: all the bytes are 0", -9, () -> x.law(300));
        due("12: the highest first, of each", 20, () -> x.feed(0x6d757374, 0x20202020, 0x20202020, 0x20202020, 0x2020373b));
        due("12: a law", 0, () -> x.law(20));
        due("12: a byte of 255", 20, () -> x.feed(0x20ff0000, -1, -1, -1, -1));
        due("12: cannot stand", -9, () -> x.law(20));
        due("12: at its place", 1, () -> x.fault());
    }

    private static void law() {
        YardTalk x = new YardTalk();
        illegal("13: 1 of an empty tape", () -> x.law(1));
        illegal("13: -1", () -> x.law(-1));
        due("13: an empty law", 0, () -> x.law(0));
        x.feed(0x6d757374, 0x2037203b, 0, 0, 0);
        illegal("13: 21 of 20", () -> x.law(21));
        due("13: the tape stays", 20, () -> x.count(9));
        due("13: the first bytes", 1, () -> x.law(8));
        due("13: the tape is empty", 0, () -> x.count(9));
        due("13: fault 1", -9, () -> Check.law(x, "must;"));
        due("13: fault 2", -8, () -> Check.law(x, "must 1000;"));
        due("13: fault 3", -7, () -> Check.law(x, "must (((((((1)))))));"));
        due("13: faults make no law", 2, () -> x.count(4));
        for (int i = 2; i < 6; i++) {
            int number = i;
            due("13: number", number, () -> Check.law(x, "lose 1;"));
        }
        due("13: there are 6", -1, () -> Check.law(x, "lose 1;"));
        due("13: the tape is empty then", 0, () -> x.count(9));
        due("13: laws", 6, () -> x.count(4));
    }

    private static void fault() {
        YardTalk x = new YardTalk();
        due("14: without", NONE, () -> x.fault());
        Check.law(x, "must 5; lose");
        due("14: at the length", 12, () -> x.fault());
        illegal("14: no law", () -> x.law(1));
        due("14: stays", 12, () -> x.fault());
        Check.law(x, "must 5; lose 1;");
        due("14: none again", NONE, () -> x.fault());
    }

    private static void force() {
        YardTalk x = new YardTalk();
        outside("15: none yet", () -> x.force(0));
        Check.law(x, "must 0;");
        Check.law(x, "must 1;");
        x.film();
        due("15: none in force goes on", NONE, () -> x.force(NONE));
        due("15: and ends a film", NONE, () -> x.count(7));
        due("15: the first", NONE, () -> x.force(1));
        due("15: in force", 1, () -> x.count(5));
        due("15: was", 1, () -> x.force(0));
        outside("15: 2", () -> x.force(2));
        outside("15: -2", () -> x.force(-2));
        due("15: stays", 0, () -> x.force(NONE));
    }

    /** The draws from 1 on are 16838, 5758, 10113: orders 2 and 4, and shown (13 is below 50). */
    private static void talkNotRight() {
        YardTalk x = with("ym");
        due("16: not right", 0, () -> x.talk(0, 1, 1, 2, 3));
        int[] note = {0, 0, 1, 1, 2, 3, 2, 2, 3, 9, 4, 0, 0, 0, 0, 1, 2};
        for (int i = 0; i < note.length; i++) {
            int what = i;
            due("16: note " + what, note[what], () -> x.note(0, what));
        }
        int[][] weights = {{6, 2, 10}, {6, 7, 8}, {1, 3, 10}, {1, 8, 8}, {3, 9, 10}, {3, 14, 8}, {0, 5, 10}, {4, 1, 10}};
        for (int[] w : weights) {
            due("16: weight of sign " + w[1] + " for " + w[0], w[2], () -> x.sign(1, w[0], w[1]));
        }
        due("16: the order of who said it is learnt", 10, () -> x.order(1, 2));
        due("16: not its own", 0, () -> x.order(1, 4));
        due("16: who said it learns nothing", 10, () -> x.sign(0, 6, 2));
        due("16: uses", 1, () -> x.uses(0, 9));
        x.set(1, 0);
        // Its own order is 2 now; of the acts none has 12, 0 is nobody's sign, 3 is its sign for person 1.
        due("16: again", 0, () -> x.talk(0, 1, 0, 0, 1));
        due("16: the next draw is 17515: order 1", 1, () -> x.note(1, 6));
        due("16: not shown", 0, () -> x.note(1, 15));
        due("16: its own order is learnt", 2, () -> x.note(1, 16));
        due("16: more", 20, () -> x.order(1, 2));
        due("16: what was taken is learnt: sign 0 for act 0", 10, () -> x.sign(1, 4, 0));
        due("16: and loses the other", 8, () -> x.sign(1, 4, 1));
        due("16: sign 3 for person 1", 20, () -> x.sign(1, 1, 3));
        due("16: sign 12 for person 0", 10, () -> x.sign(1, 0, 12));
    }

    private static void talkRight() {
        YardTalk x = with("tmt");
        x.set(1, 100);
        x.force(Check.law(x, "learn 990;order 995;"));
        x.talk(0, 1, 0, 0, 0);
        due("16: its own sign is less, twice", 6, () -> x.sign(1, 0, 5));
        due("16: learnt twice at two places, 999 at most", 999, () -> x.sign(1, 0, 0));
        due("16: learnt once", 990, () -> x.sign(1, 4, 4));
        due("16: its order", 995, () -> x.order(1, 0));
        due("16: who says it is right", 1, () -> x.talk(1, 2, 0, 0, 0));
        due("16: one more for the sign", 991, () -> x.sign(1, 4, 4));
        due("16: not above 999", 999, () -> x.sign(1, 0, 0));
        due("16: one more for the order", 996, () -> x.order(1, 0));
        due("16: a teacher learns no order", NONE, () -> x.note(1, 16));
        due("16: a teacher who takes learns nothing", 500, () -> x.sign(2, 0, 0));
        due("16: teachers are right", 1, () -> x.talk(0, 2, 3, 2, 1));
        due("16: a teacher who is right gets nothing", 500, () -> x.sign(0, 3, 3));
        due("16: nor for its order", 500, () -> x.order(0, 0));
        due("16: not right, nothing more", 0, () -> x.talk(1, 2, 1, 0, 0));
        due("16: its sign for 1 stays", 10, () -> x.sign(1, 1, 8));
        due("16: its order stays", 996, () -> x.order(1, 0));
        x.force(Check.law(x, "lose 999;"));
        x.talk(0, 1, 1, 0, 0);
        due("16: 0 at least", 0, () -> x.sign(1, 1, 8));
        due("16: its sign by learn as without", 10, () -> x.sign(1, 1, 1));
    }

    private static void talkOfLateOnes() {
        YardTalk x = with("tl");
        x.set(1, 100);
        x.talk(0, 1, 0, 0, 0);
        due("16: a late one learns signs", 20, () -> x.sign(1, 0, 0));
        due("16: no order", 0, () -> x.order(1, 0));
        due("16: none is noted", NONE, () -> x.note(0, 16));
        due("16: nothing in back", 0, () -> x.back(1, 0, NONE));
        // Its order is drawn: by the fourth draw, 17515, it is 1, which is not the teacher's.
        x.seeds(1, 1);
        x.talk(1, 0, 0, 0, 0);
        due("16: its order is drawn", 2, () -> x.note(1, 6));
        for (int seed = 1; seed < 60; seed++) {
            x.seeds(1, seed);
            int was = x.sign(1, 4, 4);
            if (x.talk(1, 0, 0, 0, 0) == 1) {
                due("16: one more for its sign", was + 1, () -> x.sign(1, 4, 4));
                due("16: a late one has no more of an order", 0, () -> x.order(1, 0));
                return;
            }
        }
        due("16: a late one is right at times", true, () -> false);
    }

    private static void talkOfYoungOnes() {
        YardTalk x = with("tym");
        x.set(1, 100);
        x.force(Check.law(x, "order 50;"));
        x.talk(0, 1, 0, 0, 0);
        due("16: below must", 50, () -> x.order(1, 0));
        x.talk(0, 1, 0, 0, 0);
        due("16: must: it is a rule", 999, () -> x.order(1, 0));
        say(x, 2, 0, 2, 0, 0, 0);
        due("16: a middle one makes none", 100, () -> x.order(2, 0));
        YardTalk w = with("ty");
        w.set(1, 100);
        w.force(Check.law(w, "order 1;must 1;"));
        w.talk(0, 1, 0, 0, 0);
        due("16: 1 is above nothing", 999, () -> w.order(1, 0));
        YardTalk v = with("ty");
        v.set(1, 100);
        v.force(Check.law(v, "order 0;must 0;"));
        v.talk(0, 1, 0, 0, 0);
        due("16: 0 is not", 0, () -> v.order(1, 0));
        // Orders 2 (a drawn one, told by a late child) and 0 (told by the teacher) of the same weight: no rule.
        YardTalk y = with("tyl");
        y.set(1, 100);
        y.force(Check.law(y, "order 200;lose 0;must 300;"));
        y.talk(2, 1, 0, 0, 0);
        due("16: the drawn order", 200, () -> y.order(1, 2));
        y.force(Check.law(y, "order 200;lose 0;must 200;"));
        y.talk(0, 1, 0, 0, 0);
        due("16: not above the others together", 200, () -> y.order(1, 0));
        y.talk(0, 1, 0, 0, 0);
        due("16: above them", 999, () -> y.order(1, 0));
        due("16: the other is gone", 0, () -> y.order(1, 2));
        // must in a talk knows of it: the talk is shown.
        YardTalk z = with("ty");
        z.set(1, 100);
        z.force(Check.law(z, "must 11 if shown=1;"));
        z.talk(0, 1, 0, 0, 0);
        due("16: 10 is below 11", 10, () -> z.order(1, 0));
        z.force(Check.law(z, "must 20 if shown=1 and weight=20 and talks=1;"));
        z.talk(0, 1, 0, 0, 0);
        due("16: weight is that of the order as it is now, the talk is not counted yet", 999, () -> z.order(1, 0));
    }

    private static void talkRefused() {
        YardTalk x = with("ttt");
        noChild("16: none says", () -> x.talk(3, 0, 0, 0, 0));
        noChild("16: none takes", () -> x.talk(0, -1, 0, 0, 0));
        noChild("16: none, and one", () -> x.talk(5, 5, 9, 9, 9));
        illegal("16: one alone", () -> x.talk(0, 0, 0, 0, 0));
        illegal("16: who 4", () -> x.talk(0, 1, 4, 0, 0));
        illegal("16: what -1", () -> x.talk(0, 1, 0, -1, 0));
        illegal("16: whom 4", () -> x.talk(0, 1, 0, 0, 4));
        x.visit(1, 1);
        due("16: two yards", -2, () -> x.talk(0, 1, 0, 0, 0));
        x.leave(2);
        due("16: one has left", -2, () -> x.talk(0, 2, 0, 0, 0));
        due("16: the other has left", -2, () -> x.talk(2, 0, 0, 0, 0));
        illegal("16: no meaning even then", () -> x.talk(0, 2, 0, 0, 4));
        due("16: none was", 0, () -> x.count(3));
        due("16: no draw was", 1, () -> x.count(10));
    }

    private static void talkWithWornSigns() {
        YardTalk x = with("ttm");
        x.set(0, 10);
        x.set(1, 100);
        for (int i = 0; i < 9; i++) {
            due("16: not worn yet", 1, () -> x.talk(0, 1, 0, 0, 1));
        }
        due("16: worn by this very talk: 1 is taken as 0", 0, () -> x.talk(0, 1, 0, 0, 1));
        due("16: who", 0, () -> x.note(9, 11));
        due("16: whom", 0, () -> x.note(9, 13));
        due("16: the sign is noted as it was used", 1, () -> x.note(9, 9));
        x.talk(0, 2, 1, 1, 1);
        due("16: learnt is the sign seen, twice", 20, () -> x.sign(2, 1, 0));
        due("16: not the one used", 0, () -> x.sign(2, 1, 1));
        due("16: its own is less, twice", 6, () -> x.sign(2, 1, 13));
        due("16: the act's sign 5 is not seen as 4", 10, () -> x.sign(2, 5, 5));
        // 5 is worn, 4 is not far: a couple is worn only if both are.
        say(x, 10, 0, 1, 2, 1, 2);
        due("16: 4 and 5 are worn", 4, () -> x.seen(0, 5));
        due("16: 2 alone is worn", 2, () -> x.seen(0, 2));
        due("16: 3 is not seen as 2", 3, () -> x.seen(0, 3));
        due("16: in another yard nothing is worn", 1, () -> x.seen(1, 1));
    }

    /** Choice's draws from 1 on: 16838, 5758, 10113, 17515, 31051, 5627, 23010, 7419, 16212, 4086. */
    private static void run() {
        YardTalk x = with("tttt");
        x.leave(1);
        illegal("17: yard 3", () -> x.run(3, 0));
        illegal("17: yard -1", () -> x.run(-1, 0));
        illegal("17: -1", () -> x.run(0, -1));
        illegal("17: 201", () -> x.run(0, 201));
        due("17: none", 0, () -> x.run(0, 0));
        due("17: an empty yard", 0, () -> x.run(1, 10));
        due("17: no draw", 1, () -> x.count(11));
        due("17: two", 2, () -> x.run(0, 2));
        // Those there: 0 2 3. 16838 leaves 2: child 3; 5758 leaves 0 of two: child 0; then 1, 3, 3.
        // 5627 leaves 2: child 3; 23010 leaves 0: child 0; then 3, 0, 2.
        int[][] notes = {{3, 0, 1, 3, 3}, {3, 0, 3, 0, 2}};
        for (int t = 0; t < 2; t++) {
            for (int i = 0; i < 5; i++) {
                int talk = t;
                int what = i + 1;
                due("17: talk " + talk + " note " + what, notes[talk][what - 1], () -> x.note(talk, what));
            }
        }
        YardTalk y = with("tt");
        y.run(0, 1);
        due("17: 16838 leaves 0 of two", 0, () -> y.note(0, 1));
        due("17: the others are above it", 1, () -> y.note(0, 2));
        y.leave(0);
        due("17: one is none", 0, () -> y.run(0, 200));
    }

    private static void runToTheEnd() {
        YardTalk x = with("tt");
        for (int i = 0; i < 7; i++) {
            due("17: 200", 200, () -> x.run(0, 200));
        }
        due("17: 99 more", 99, () -> x.run(0, 99));
        int choice = x.count(11);
        due("17: fewer", 1, () -> x.run(0, 200));
        due("17: none more", 0, () -> x.run(0, 200));
        due("16: 1,500 were", -1, () -> x.talk(0, 1, 0, 0, 0));
        x.leave(0);
        due("16: the first of these", -1, () -> x.talk(0, 1, 0, 0, 0));
        due("17: all", 1500, () -> x.count(3));
        due("18: the last", 0, () -> x.note(1499, 0));
        outside("18: beyond", () -> x.note(1500, 0));
        int five = choice;
        for (int i = 0; i < 5; i++) {
            five = five * 1103515245 + 12345;
        }
        int drawn = five;
        due("17: five draws for the last one alone", drawn, () -> x.count(11));
        x.restore();
        YardTalk y = with("ty");
        y.set(1, 100);
        for (int i = 0; i < 8; i++) {
            y.run(0, 200);
        }
        due("30: a trial also beyond 1,500", 2, () -> y.trial(0, 100, NONE, 0));
        due("34: meets also beyond 1,500", 64, () -> y.meets(0, 1));
    }

    private static void note() {
        YardTalk x = with("tt");
        outside("18: none", () -> x.note(0, 0));
        x.years(4);
        x.talk(1, 0, 3, 2, 1);
        int[] note = {4, 1, 0, 3, 2, 1, 0, 3, 6, 1, 0, 3, 2, 1, 1, 1, NONE};
        for (int i = 0; i < note.length; i++) {
            int what = i;
            due("18: note " + what, note[what], () -> x.note(0, what));
        }
        outside("18: -1", () -> x.note(-1, 17));
        outside("18: 1", () -> x.note(1, 0));
        illegal("18: what 17", () -> x.note(0, 17));
        illegal("18: what -1", () -> x.note(0, -1));
    }

    private static void share() {
        YardTalk x = with("ttl");
        x.talk(0, 1, 0, 0, 0);
        x.talk(0, 2, 0, 0, 0);
        x.image();
        x.come(0, 5, false);
        x.years(1);
        x.talk(0, 3, 1, 1, 1);
        due("19: year 0", 2, () -> x.share(0, NONE, NONE, false));
        due("19: by teachers to teachers", 1, () -> x.share(0, 3, 3, false));
        due("19: right", 1, () -> x.share(0, 3, 3, true));
        due("19: to late ones", 1, () -> x.share(0, NONE, 2, false));
        due("19: to late ones, right", x.note(1, 14), () -> x.share(0, NONE, 2, true));
        due("19: by young ones", 0, () -> x.share(1, 0, NONE, false));
        due("19: to young ones", 1, () -> x.share(1, 3, 0, false));
        x.restore();
        x.come(0, 8, false);
        due("19: as they were then", 1, () -> x.share(1, NONE, 0, false));
        due("19: not as now", 0, () -> x.share(1, NONE, 1, false));
        due("19: no such year", 0, () -> x.share(-4, NONE, NONE, false));
        illegal("19: kind 4", () -> x.share(0, 4, 0, false));
        illegal("19: kind -2", () -> x.share(0, 0, -2, true));
    }

    private static void held() {
        YardTalk x = with("ttl");
        due("20: two", 2, () -> x.held(0, 0));
        due("20: none", 0, () -> x.held(0, 1));
        due("20: elsewhere", 0, () -> x.held(1, 0));
        x.leave(0);
        due("20: those there", 1, () -> x.held(0, 0));
        x.visit(1, 1);
        due("20: gone", 0, () -> x.held(0, 0));
        x.force(Check.law(x, "must 0;"));
        due("20: by the law in force", 1, () -> x.held(0, 3));
        illegal("20: yard 3", () -> x.held(3, 0));
        illegal("20: order 6", () -> x.held(0, 6));
    }

    private static void first() {
        YardTalk x = with("tty");
        due("21: no talk yet", NONE, () -> x.first(0, 0));
        Check.law(x, "must 501;");
        x.force(0);
        x.talk(0, 1, 0, 0, 0);
        x.force(NONE);
        due("21: by the law that was", NONE, () -> x.first(0, 1));
        x.talk(0, 1, 0, 0, 0);
        due("21: who takes is asked first", 1, () -> x.first(0, 0));
        due("21: the talk", 1, () -> x.first(0, 1));
        x.force(Check.law(x, "must 0;"));
        x.talk(2, 0, 0, 0, 0);
        due("21: another order", 0, () -> x.first(5, 0));
        due("21: its talk", 2, () -> x.first(5, 1));
        x.image();
        x.restore();
        due("21: stays", 1, () -> x.first(0, 0));
        illegal("21: order 6", () -> x.first(6, 0));
        illegal("21: what 2", () -> x.first(0, 2));
        illegal("21: what -1", () -> x.first(0, -1));
        // Behind the talk: right and shown are 0, the talk is counted.
        YardTalk y = with("ttm");
        y.force(Check.law(y, "must 900;must 100 if right=0 and shown=0 and talks=1;"));
        y.talk(0, 1, 0, 0, 0);
        due("21: the talk is over", 1, () -> y.first(0, 0));
    }

    private static void back() {
        YardTalk x = with("tml");
        x.set(1, 100);
        say(x, 2, 0, 1, 0, 0, 0);
        x.talk(0, 2, 0, 0, 0);
        x.talk(0, 1, 0, 0, 0);
        due("22: how many", 3, () -> x.back(1, 0, NONE));
        due("22: the first", 0, () -> x.back(1, 0, 0));
        due("22: the last", 3, () -> x.back(1, 0, 2));
        due("22: none such", NONE, () -> x.back(1, 0, 3));
        due("22: below", NONE, () -> x.back(1, 0, -2));
        due("22: late ones learn none", 0, () -> x.back(2, 0, NONE));
        due("22: teachers learn none", 0, () -> x.back(0, 0, NONE));
        due("22: another order", 0, () -> x.back(1, 1, NONE));
        noChild("22: none", () -> x.back(3, 6, 0));
        illegal("22: order 6", () -> x.back(1, 6, 0));
    }

    private static void uses() {
        YardTalk x = with("tt");
        say(x, 3, 0, 1, 2, 3, 2);
        due("23: each place", 6, () -> x.uses(0, 2));
        due("23: the act's", 3, () -> x.uses(0, 7));
        due("23: of no use", 0, () -> x.uses(0, 3));
        due("23: another yard", 0, () -> x.uses(1, 2));
        x.visit(0, 1);
        x.visit(1, 1);
        x.talk(1, 0, 2, 0, 0);
        due("23: where it was said", 1, () -> x.uses(1, 2));
        due("23: not where they came from", 6, () -> x.uses(0, 2));
        illegal("23: yard 3", () -> x.uses(3, 0));
        illegal("23: sign 16", () -> x.uses(0, 16));
        illegal("23: sign -1", () -> x.uses(0, -1));
    }

    private static void seen() {
        YardTalk x = with("tt");
        x.set(0, 10);
        say(x, 9, 0, 1, 2, 0, 3);
        due("24: 9 is not worn", 3, () -> x.seen(0, 3));
        x.talk(0, 1, 2, 0, 2);
        due("24: one of the two is not worn", 3, () -> x.seen(0, 3));
        x.talk(0, 1, 3, 0, 3);
        due("24: both are worn", 2, () -> x.seen(0, 3));
        due("24: the other one", 2, () -> x.seen(0, 2));
        due("24: 4 is worn alone", 4, () -> x.seen(0, 4));
        due("24: 5", 5, () -> x.seen(0, 5));
        x.set(0, 12);
        due("24: by WEAR as it is", 3, () -> x.seen(0, 3));
        illegal("24: yard -1", () -> x.seen(-1, 0));
        illegal("24: sign 16", () -> x.seen(0, 16));
    }

    private static void film() {
        YardTalk x = with("tt");
        due("25: the first", 0, () -> x.film());
        due("25: one is on", -2, () -> x.film());
        x.end();
        due("25: the second", 1, () -> x.film());
        x.end();
        due("25: the third", 2, () -> x.film());
        due("25: three, and one is on", -1, () -> x.film());
        x.end();
        due("25: three", -1, () -> x.film());
    }

    private static void filmEnds() {
        YardTalk x = with("tt");
        x.film();
        x.run(0, 99);
        due("25: on", 99, () -> x.count(7));
        x.run(0, 3);
        due("25: ended by 100", NONE, () -> x.count(7));
        due("25: none is on", -1, () -> x.end());
        due("25: it has 100", 100, () -> x.fits(0, NONE));
        x.film();
        x.image();
        x.read();
        x.trial(0, 5, NONE, 0);
        x.meets(0, 1);
        Check.law(x, "lose 1;");
        due("25: goes on", 0, () -> x.count(7));
        due("25: wrong calls do nothing", true, () -> {
            Check.answer(() -> x.force(7));
            Check.answer(() -> x.set(0, 0));
            Check.answer(() -> x.years(70));
            Check.answer(() -> x.come(4, 4, true));
            Check.answer(() -> x.visit(9, 1));
            return x.count(7) == 0;
        });
        x.restore();
        due("25: ended by restore()", NONE, () -> x.count(7));
        x.film();
        due("36: restore() of no image does nothing", -1, () -> x.restore());
        due("25: goes on still", 0, () -> x.count(7));
        x.come(0, 5, false);
        due("25: ended by come()", NONE, () -> x.count(7));
    }

    private static void end() {
        YardTalk x = with("tt");
        due("26: none", -1, () -> x.end());
        x.film();
        x.run(0, 7);
        due("26: seven", 7, () -> x.end());
        due("26: none again", -1, () -> x.end());
        x.run(0, 3);
        due("26: later ones are not in it", 7, () -> x.fits(0, NONE));
    }

    private static void gap() {
        YardTalk x = with("tt");
        outside("27: no film", () -> x.gap(0, 0));
        x.film();
        illegal("27: no talk", () -> x.gap(0, 0));
        x.run(0, 2);
        due("27: a gap, while it is on", 1, () -> x.gap(0, 1));
        due("27: it was", 0, () -> x.gap(0, 1));
        illegal("27: talk 2", () -> x.gap(0, 2));
        illegal("27: talk -1", () -> x.gap(0, -1));
        outside("27: film 1", () -> x.gap(1, 9));
        outside("27: film -1", () -> x.gap(-1, 0));
    }

    /** The teacher tells the child its sign for person 0; the child says it. By "learn 0" it would say its own. */
    private static YardTalk filmed() {
        YardTalk x = with("tm");
        x.set(1, 100);
        Check.law(x, "learn 10;");
        Check.law(x, "learn 0;");
        x.force(0);
        x.film();
        x.talk(0, 1, 0, 0, 0);
        x.talk(1, 0, 0, 0, 0);
        x.talk(0, 1, 1, 1, 1);
        x.end();
        return x;
    }

    private static void fits() {
        YardTalk x = filmed();
        x.years(5);
        x.leave(0);
        due("28: its own law", 3, () -> x.fits(0, 0));
        due("28: none is like it", 3, () -> x.fits(0, NONE));
        due("28: another law, till the child says it", 1, () -> x.fits(0, 1));
        x.gap(0, 1);
        due("28: a gap is alike", 3, () -> x.fits(0, 1));
        due("28: nothing changes", 22, () -> x.sign(1, 0, 0));
        outside("28: film 1", () -> x.fits(1, 0));
        outside("28: film -1", () -> x.fits(-1, 0));
        outside("28: law 2", () -> x.fits(0, 2));
        outside("28: law -2", () -> x.fits(0, -2));
    }

    private static void read() {
        YardTalk x = new YardTalk();
        due("29: no films, no laws", 64, () -> x.read());
        YardTalk y = filmed();
        due("29: not law 1", 65, () -> y.read());
        Check.law(y, "order 3;");
        due("29: one that makes the same", 69, () -> y.read());
        y.film();
        y.talk(0, 1, 0, 0, 0);
        due("29: a film that is on", 69, () -> y.read());
        y.gap(0, 1);
        due("29: all, with a gap", 71, () -> y.read());
        YardTalk z = with("tm");
        z.set(1, 100);
        Check.law(z, "learn 1;");
        z.force(Check.law(z, "learn 0;lose 0;"));
        z.film();
        say(z, 9, 0, 1, 0, 0, 0);
        z.force(NONE);
        z.film();
        z.talk(1, 0, 0, 0, 0);
        z.talk(0, 1, 0, 0, 0);
        z.talk(1, 0, 0, 0, 0);
        due("29: neither none nor law 0", 3, () -> z.fits(1, NONE));
        due("29: law 0, till it says another sign", 2, () -> z.fits(1, 0));
        due("29: none alone", 64, () -> z.read());
        YardTalk w = with("tm");
        w.set(1, 100);
        Check.law(w, "lose 3;");
        w.force(Check.law(w, "learn 0;lose 0;"));
        w.film();
        w.talk(0, 1, 0, 0, 0);
        w.talk(1, 0, 0, 0, 0);
        due("29: the second law alone", 2, () -> w.read());
    }

    private static void trial() {
        YardTalk x = with("tyl");
        x.set(1, 100);
        Check.law(x, "order 100;");
        Check.law(x, "order 0;");
        Check.law(x, "must 0;");
        due("30: as it is", 1, () -> x.trial(0, 0, NONE, 0));
        due("30: by a law", 3, () -> x.trial(0, 0, 2, 4));
        due("30: it learns", 2, () -> x.trial(0, 60, 0, 0));
        due("30: it does not", 1, () -> x.trial(0, 60, 1, 0));
        due("30: an empty yard", 0, () -> x.trial(1, 60, 1, 0));
        due("30: nothing changes: the child", 0, () -> x.order(1, 0));
        due("30: nothing changes: choice", 1, () -> x.count(11));
        due("30: nothing changes: chance", 1, () -> x.count(10));
        due("30: nothing changes: uses", 0, () -> x.uses(0, 0));
        due("30: nothing changes: talks", 0, () -> x.count(3));
        due("30: nothing changes: first", NONE, () -> x.first(0, 0));
        due("30: nothing changes: the law in force", NONE, () -> x.count(5));
        outside("30: law 3", () -> x.trial(9, 0, 3, 0));
        outside("30: law -2", () -> x.trial(0, 0, -2, 0));
        illegal("30: yard 3", () -> x.trial(3, 0, NONE, 0));
        illegal("30: talks 201", () -> x.trial(0, 201, NONE, 0));
        illegal("30: talks -1", () -> x.trial(0, -1, NONE, 0));
        illegal("30: order 6", () -> x.trial(0, 0, NONE, 6));
        // The same draws as a run has.
        x.force(0);
        int tried = x.trial(0, 9, 0, 0);
        x.run(0, 9);
        due("30: as the run is", tried, () -> x.held(0, 0));
    }

    private static void fewest() {
        YardTalk x = with("lltl");
        due("31: the first two hold none", 3, () -> x.fewest(0, 0, 33, 0));
        due("31: 34 of a hundred of three is more than one", NONE, () -> x.fewest(0, 0, 34, 0));
        due("31: with talks", 3, () -> x.fewest(0, 50, 1, 0));
        YardTalk z = with("ltt");
        due("31: 66 of a hundred of three", 3, () -> z.fewest(0, 0, 66, 0));
        due("31: 67", NONE, () -> z.fewest(0, 0, 67, 0));
        due("31: all of them never", NONE, () -> z.fewest(0, 0, 100, 0));
        due("31: all of two", 2, () -> with("tt").fewest(0, 0, 100, 0));
        YardTalk y = with("tl");
        due("31: half of two", 2, () -> y.fewest(0, 0, 50, 0));
        due("31: more than half", NONE, () -> y.fewest(0, 0, 51, 0));
        y.leave(1);
        due("31: two at least", NONE, () -> y.fewest(0, 0, 50, 0));
        due("31: nothing changes", 4, () -> x.count(2));
        illegal("31: yard 3", () -> x.fewest(3, 0, 50, 0));
        illegal("31: talks 201", () -> x.fewest(0, 201, 50, 0));
        illegal("31: hundredths 0", () -> x.fewest(0, 0, 0, 0));
        illegal("31: hundredths 101", () -> x.fewest(0, 0, 101, 0));
        illegal("31: order -1", () -> x.fewest(0, 0, 50, -1));
    }

    private static void needed() {
        YardTalk x = with("ty");
        x.set(1, 100);
        due("32: no law", 0, () -> x.needed(0, 8, 0));
        x.force(Check.law(x, "must 500;must 600;must 400;"));
        due("32: the last must", 4, () -> x.needed(0, 0, 0));
        x.force(Check.law(x, "order 200;must 150;"));
        due("32: without 200 it is 80 at most", 1, () -> x.needed(0, 8, 0));
        due("32: no talks, no need", 0, () -> x.needed(0, 0, 0));
        due("32: nothing changes", 0, () -> x.count(3));
        illegal("32: yard -1", () -> x.needed(-1, 0, 0));
        illegal("32: talks 201", () -> x.needed(0, 201, 0));
        illegal("32: order 6", () -> x.needed(0, 0, 6));
        x.force(NONE);
        illegal("32: wrong even without law", () -> x.needed(0, 0, 6));
    }

    private static void unlike() {
        YardTalk x = with("t");
        due("33: nobody is there", NONE, () -> x.unlike(0, 1));
        x.come(1, 8, false);
        due("33: all concepts, orders alike", 8, () -> x.unlike(0, 1));
        due("33: the other way", 8, () -> x.unlike(1, 0));
        x.come(1, 20, true);
        due("33: the teacher weighs more", 0, () -> x.unlike(0, 1));
        due("33: itself", 0, () -> x.unlike(1, 1));
        due("33: nobody, itself", NONE, () -> x.unlike(2, 2));
        x.leave(2);
        due("33: those there", 8, () -> x.unlike(0, 1));
        x.come(1, 8, false);
        x.seeds(1, 1);
        x.set(1, 100);
        x.talk(1, 3, 0, 0, 0);
        due("33: the drawn order, 2, is unlike, too", 9, () -> x.unlike(0, 1));
        illegal("33: yard 3", () -> x.unlike(0, 3));
        illegal("33: yard -1", () -> x.unlike(-1, 0));
    }

    private static void meets() {
        YardTalk x = with("ttl");
        due("34: teachers", 64, () -> x.meets(0, 1));
        due("34: no draw", 1, () -> x.count(10));
        x.set(0, 10);
        say(x, 9, 0, 1, 0, 0, 1);
        int chance = x.count(10);
        due("34: those that wear both signs are not right", 56, () -> x.meets(0, 1));
        due("34: uses go back", 9, () -> x.uses(0, 0));
        x.meets(2, 1);
        due("34: chance goes back", chance, () -> x.count(10));
        due("34: no notes", 9, () -> x.count(3));
        due("34: not counted as said", 9, () -> x.of(0, 5));
        x.talk(0, 1, 0, 0, 1);
        due("34: person 1 is no longer taken", 36, () -> x.meets(0, 1));
        x.visit(1, 1);
        due("34: two yards", NONE, () -> x.meets(0, 1));
        x.leave(2);
        due("34: one has left", NONE, () -> x.meets(0, 2));
        illegal("34: one", () -> x.meets(2, 2));
        noChild("34: none", () -> x.meets(3, 3));
    }

    private static void image() {
        YardTalk x = with("t");
        for (int i = 1; i <= 4; i++) {
            due("35: images", i, () -> x.image());
        }
        due("35: there are 4", -1, () -> x.image());
        due("35: still 4", 4, () -> x.count(8));
    }

    private static void restore() {
        YardTalk x = with("tt");
        due("36: none", -1, () -> x.restore());
        x.force(Check.law(x, "must 7;"));
        x.image();
        x.come(1, 3, false);
        x.image();
        x.years(3);
        x.set(0, 77);
        x.set(1, 7);
        x.force(NONE);
        x.run(0, 20);
        x.seeds(8, 9);
        x.leave(2);
        x.visit(0, 1);
        due("36: one is left", 1, () -> x.restore());
        int[][] is = {{0, 0}, {1, 3}, {2, 3}, {3, 20}, {4, 1}, {5, 0}, {8, 1}, {10, 1}, {11, 1}};
        for (int[] c : is) {
            due("36: count " + c[0], c[1], () -> x.count(c[0]));
        }
        due("36: the yard", 0, () -> x.of(0, 0));
        due("36: took", 0, () -> x.of(0, 4) + x.of(1, 4));
        due("36: said", 0, () -> x.of(0, 5) + x.of(1, 5));
        due("36: uses", 0, () -> x.uses(0, 4) + x.uses(0, 5) + x.uses(0, 6) + x.uses(0, 7));
        due("36: wear", 1000, () -> x.set(0, 10));
        due("36: point", 50, () -> x.set(1, 10));
        due("36: notes stay", 3, () -> x.note(19, 0));
        due("36: none is left", 0, () -> x.restore());
        due("36: the first image", 2, () -> x.count(1));
        noChild("36: the child is gone", () -> x.of(2, 0));
        x.come(0, 20, true);
        due("36: its number comes again", 500, () -> x.sign(2, 0, 0));
        due("36: with its weights alone", 0, () -> x.sign(2, 0, 10));
        due("36: wear, too", 1000, () -> x.set(0, 10));
        due("36: no more", -1, () -> x.restore());
    }

    private static void plain() {
        YardTalk x = with("ttl");
        due("37: all", 64, () -> x.plain(0));
        due("37: without an order", 0, () -> x.plain(2));
        x.set(0, 10);
        say(x, 10, 0, 1, 0, 0, 1);
        due("37: persons 2 and 3 alone", 16, () -> x.plain(0));
        say(x, 10, 0, 1, 0, 1, 1);
        due("37: acts 6 and 7 alone", 8, () -> x.plain(0));
        say(x, 10, 0, 1, 2, 1, 3);
        due("37: no person", 0, () -> x.plain(0));
        x.visit(0, 1);
        due("37: in its yard", 64, () -> x.plain(0));
        x.leave(0);
        due("37: also of one that has left", 64, () -> x.plain(0));
        noChild("37: none", () -> x.plain(3));
        // A concept without any sign of weight is one more thing to say; two of them are not.
        YardTalk y = with("tm");
        y.set(1, 100);
        y.force(Check.law(y, "learn 0;lose 999;"));
        y.talk(0, 1, 0, 0, 0);
        due("37: one without sign", 64, () -> y.plain(1));
        y.talk(0, 1, 1, 0, 1);
        due("37: two without sign", 16, () -> y.plain(1));
        due("37: no draw", true, () -> {
            int chance = y.count(10);
            y.plain(1);
            return y.count(10) == chance;
        });
    }

    private static void word() {
        YardTalk x = new YardTalk();
        due("38: nobody", NONE, () -> x.word(0, 0));
        x.come(0, 5, false);
        x.come(0, 5, false);
        due("38: of two alike the least: 0 and 5", 0, () -> x.word(0, 0));
        due("38: 12 and 1", 1, () -> x.word(0, 4));
        x.come(0, 5, true);
        due("38: the greatest sum", 4, () -> x.word(0, 4));
        YardTalk y = with("tm");
        y.set(1, 100);
        y.force(Check.law(y, "learn 0;lose 999;"));
        y.talk(0, 1, 0, 0, 0);
        y.leave(0);
        due("38: all are 0: the least", 0, () -> y.word(0, 0));
        illegal("38: yard 3", () -> x.word(3, 0));
        illegal("38: concept 8", () -> x.word(0, 8));
        illegal("38: concept -1", () -> x.word(1, -1));
    }

    private static void blurred() {
        YardTalk x = with("tt");
        due("39: nobody", NONE, () -> x.blurred(1, NONE));
        due("39: none", 0, () -> x.blurred(0, NONE));
        x.set(0, 10);
        say(x, 10, 0, 1, 2, 0, 3);
        say(x, 10, 0, 1, 2, 1, 3);
        due("39: two", 2, () -> x.blurred(0, NONE));
        due("39: persons 2 and 3", 19, () -> x.blurred(0, 0));
        due("39: acts 4 and 5", 37, () -> x.blurred(0, 1));
        due("39: no third", NONE, () -> x.blurred(0, 2));
        due("39: below", NONE, () -> x.blurred(0, -2));
        illegal("39: yard 3", () -> x.blurred(3, NONE));
        illegal("39: yard -1", () -> x.blurred(-1, 0));
    }

    private static void nearest() {
        YardTalk x = with("t");
        due("40: no other", NONE, () -> x.nearest(0));
        due("40: nobody", NONE, () -> x.nearest(1));
        x.come(1, 8, false);
        due("40: the only one", 1, () -> x.nearest(0));
        x.come(2, 8, true);
        due("40: the least unlike", 2, () -> x.nearest(0));
        due("40: of these the least", 0, () -> x.nearest(1));
        x.leave(1);
        due("40: not one where nobody is", 2, () -> x.nearest(0));
        due("40: nobody is there now", NONE, () -> x.nearest(1));
        illegal("40: yard 3", () -> x.nearest(3));
        illegal("40: yard -1", () -> x.nearest(-1));
    }

    /** 0 is a teacher, 1 and 2 are young; all that is said is shown, and a rule at once. */
    private static YardTalk family() {
        YardTalk x = with("tyy");
        x.set(1, 100);
        x.force(Check.law(x, "order 100;"));
        x.talk(0, 1, 0, 0, 0);
        x.talk(1, 2, 0, 0, 0);
        return x;
    }

    private static void since() {
        YardTalk x = family();
        due("41: the child", 0, () -> x.since(1, 0));
        due("41: the teacher, by what it said", 0, () -> x.since(0, 0));
        due("41: the other", 1, () -> x.since(2, 0));
        due("41: not another order", NONE, () -> x.since(1, 1));
        x.force(Check.law(x, "must 0;"));
        due("41: no talk since", NONE, () -> x.since(2, 3));
        x.talk(0, 1, 0, 0, 0);
        due("41: of those in the talk", NONE, () -> x.since(2, 3));
        due("41: one in the talk", 2, () -> x.since(1, 3));
        due("41: the first stays", 0, () -> x.since(1, 0));
        noChild("41: none", () -> x.since(3, 6));
        illegal("41: order 6", () -> x.since(0, 6));
    }

    private static void taught() {
        YardTalk x = family();
        due("42: by the teacher", 0, () -> x.taught(1, 0));
        due("42: by the child", 1, () -> x.taught(2, 0));
        due("42: by none", NONE, () -> x.taught(0, 0));
        due("42: not another order", NONE, () -> x.taught(1, 2));
        x.talk(2, 1, 0, 0, 0);
        due("42: of two the least", 0, () -> x.taught(1, 0));
        x.talk(2, 1, 0, 0, 0);
        due("42: by the one who said most", 2, () -> x.taught(1, 0));
        noChild("42: none", () -> x.taught(3, 0));
        illegal("42: order -1", () -> x.taught(0, -1));
    }

    private static void root() {
        YardTalk x = family();
        due("43: the teacher itself", 0, () -> x.root(0, 0));
        due("43: by two steps", 0, () -> x.root(2, 0));
        due("43: none taught it", 2, () -> x.root(2, 1));
        say(x, 2, 2, 1, 0, 0, 0);
        due("43: till one came already", 1, () -> x.root(2, 0));
        due("43: from the other", 2, () -> x.root(1, 0));
        noChild("43: none", () -> x.root(-1, 0));
        illegal("43: order 6", () -> x.root(0, 6));
    }

    private static void untaught() {
        YardTalk x = family();
        x.come(0, 9, true);
        due("44: with them", 4, () -> x.held(0, 0));
        due("44: without them", 2, () -> x.untaught(0, 0, 0));
        x.visit(0, 1);
        due("44: of the yard", 0, () -> x.untaught(1, 20, 0));
        x.leave(3);
        due("44: one has left", 2, () -> x.untaught(0, 10, 0));
        due("44: nothing changes", 3, () -> x.count(2));
        YardTalk y = with("ty");
        y.set(1, 100);
        due("44: who would learn it", 2, () -> y.trial(0, 100, NONE, 0));
        due("44: does not", 0, () -> y.untaught(0, 100, 0));
        illegal("44: yard 3", () -> x.untaught(3, 0, 0));
        illegal("44: talks 201", () -> x.untaught(0, 201, 0));
        illegal("44: talks -1", () -> x.untaught(0, -1, 0));
        illegal("44: order 6", () -> x.untaught(0, 0, 6));
    }

    private static void odds() {
        YardTalk x = with("tl");
        due("45: half of two", 5, () -> x.odds(0, 0, 0, 5));
        due("45: none", 0, () -> x.odds(0, 50, 1, 20));
        x.come(0, 15, false);
        due("45: one of three is not half", 0, () -> x.odds(0, 0, 0, 5));
        // With one talk the young one learns if the teacher says it: by the first draw of seeds 1 to 4.
        YardTalk y = with("lty");
        y.leave(0);
        y.come(0, 15, false);
        y.set(1, 100);
        y.force(Check.law(y, "order 100;"));
        y.seeds(77, 78);
        int due = 0;
        for (int seed = 1; seed <= 4; seed++) {
            int one = seed * 1103515245 + 12345;
            int two = one * 1103515245 + 12345;
            due += (one >>> 16 & 32767) % 3 == 0 && (two >>> 16 & 32767) % 2 == 0 ? 1 : 0;
        }
        int wanted = due;
        due("45: seeds 1 to 4", wanted, () -> y.odds(0, 1, 0, 4));
        due("45: the seeds stay", 77, () -> y.count(11));
        illegal("45: yard 3", () -> x.odds(3, 0, 0, 1));
        illegal("45: talks 201", () -> x.odds(0, 201, 0, 1));
        illegal("45: order -1", () -> x.odds(0, 0, -1, 1));
        illegal("45: many 0", () -> x.odds(0, 0, 0, 0));
        illegal("45: many 21", () -> x.odds(0, 0, 0, 21));
    }

    private static void right() {
        YardTalk x = with("tttl");
        x.talk(0, 1, 0, 0, 0);
        x.talk(1, 2, 0, 0, 0);
        x.set(0, 10);
        say(x, 6, 0, 1, 0, 0, 1);
        say(x, 6, 1, 2, 1, 0, 1);
        due("46: said and taken", 2, () -> x.right(1, 0, 1));
        due("46: one of them alone", 1, () -> x.right(2, 0, 1));
        due("46: it has none there", NONE, () -> x.right(2, 2, 7));
        due("46: worn at last: not right", 0, () -> x.right(2, 9, 13));
        due("46: the last one that is right", 1, () -> x.right(2, 8, 13));
        due("46: both ends", 1, () -> x.right(0, 0, 0));
        due("46: beyond all", 7, () -> x.right(0, -9, 2000000000));
        due("46: none at all", NONE, () -> x.right(3, 0, 99));
        illegal("46: from above to", () -> x.right(0, 2, 1));
        noChild("46: none", () -> x.right(4, 2, 1));
    }

    private static void count() {
        YardTalk x = with("tty");
        x.visit(2, 2);
        x.years(2);
        x.run(0, 3);
        x.leave(0);
        Check.law(x, "must 1;");
        x.force(0);
        x.image();
        x.film();
        x.feed(0, 0, 0, 0, 0);
        x.come(1, 3, false);
        x.film();
        int[] due = {2, 4, 3, 3, 1, 0, 2, 0, 1, 20};
        for (int i = 0; i < due.length; i++) {
            int what = i;
            due("47: " + what, due[what], () -> x.count(what));
        }
        due("47: 12", NONE, () -> x.count(12));
        due("47: -1", NONE, () -> x.count(-1));
        due("47: far", NONE, () -> x.count(Integer.MIN_VALUE));
    }
}
