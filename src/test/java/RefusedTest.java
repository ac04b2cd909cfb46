import java.util.List;

/** Calls that are refused, by an exception or an answer, and calls that only ask: all that later calls show stays. */
public final class RefusedTest {
    private static final int NONE = YardTalk.NONE;
    private static final String ILLEGAL = "throws.IllegalArgumentException";
    private static final String NO_CHILD = "throws.NoSuchElementException";
    private static final String OUTSIDE = "throws.IndexOutOfBoundsException";
    private static final String BEYOND = "throws.IllegalStateException";
    private static final Check check = new Check();

    private final Shown.Making making;
    private final List<String> before;
    private final String where;

    private RefusedTest(String where, Shown.Making making) {
        this.where = where;
        this.making = making;
        before = Shown.behind(making, x -> null);
    }

    public static void main(String[] args) {
        whenNothingIsThere();
        whenAllIsFull();
        answersInAnOrdinaryYard();
        exceptionsInAnOrdinaryYard();
        twoThingsWrong();
        callsThatOnlyAsk();
        aLawTooManyEmptiesTheTapeAlone();
        check.end();
    }

    /** The call answers this, and nothing else is shown otherwise than without it. */
    private void refused(String call, Object want, Shown.Doing doing) {
        check.due(where + call, want, () -> doing.to(making.make()));
        check.due(where + call + " changes", "nothing", () -> Shown.firstChange(before, Shown.behind(making, doing)));
    }

    private void changesNothing(String call, Shown.Doing doing) {
        check.due(where + call + " changes", "nothing", () -> Shown.firstChange(before, Shown.behind(making, doing)));
    }

    private static void whenNothingIsThere() {
        RefusedTest t = new RefusedTest("new: ", YardTalk::new);
        t.refused("4 leave", NO_CHILD, x -> x.leave(0));
        t.refused("5 visit", NO_CHILD, x -> x.visit(0, 0));
        t.refused("6 of", NO_CHILD, x -> x.of(0, 0));
        t.refused("7 sign", NO_CHILD, x -> x.sign(0, 0, 0));
        t.refused("8 order", NO_CHILD, x -> x.order(0, 0));
        t.refused("9 holds", NO_CHILD, x -> x.holds(0, 0));
        t.refused("13 law of 1 byte", ILLEGAL, x -> x.law(1));
        t.refused("15 force", OUTSIDE, x -> x.force(0));
        t.refused("16 talk", NO_CHILD, x -> x.talk(0, 1, 0, 0, 0));
        t.refused("17 run of nobody", 0, x -> x.run(0, 200));
        t.refused("18 note", OUTSIDE, x -> x.note(0, 0));
        t.refused("19 share", 0, x -> x.share(0, NONE, NONE, false));
        t.refused("20 held", 0, x -> x.held(0, 0));
        t.refused("21 first", NONE, x -> x.first(0, 0));
        t.refused("21 first talk", NONE, x -> x.first(5, 1));
        t.refused("22 back", NO_CHILD, x -> x.back(0, 0, NONE));
        t.refused("26 end", -1, x -> x.end());
        t.refused("27 gap", OUTSIDE, x -> x.gap(0, 0));
        t.refused("28 fits", OUTSIDE, x -> x.fits(0, NONE));
        t.refused("29 read", 64, x -> x.read());
        t.refused("30 trial by no such law", OUTSIDE, x -> x.trial(0, 0, 0, 0));
        t.refused("30 trial", 0, x -> x.trial(0, 200, NONE, 0));
        t.refused("31 fewest", NONE, x -> x.fewest(0, 200, 1, 0));
        t.refused("32 needed", 0, x -> x.needed(0, 200, 0));
        t.refused("33 unlike", NONE, x -> x.unlike(0, 1));
        t.refused("34 meets", NO_CHILD, x -> x.meets(0, 1));
        t.refused("36 restore", -1, x -> x.restore());
        t.refused("37 plain", NO_CHILD, x -> x.plain(0));
        t.refused("38 word", NONE, x -> x.word(0, 0));
        t.refused("39 blurred", NONE, x -> x.blurred(0, NONE));
        t.refused("40 nearest", NONE, x -> x.nearest(0));
        t.refused("41 since", NO_CHILD, x -> x.since(0, 0));
        t.refused("42 taught", NO_CHILD, x -> x.taught(0, 0));
        t.refused("43 root", NO_CHILD, x -> x.root(0, 0));
        t.refused("44 untaught", 0, x -> x.untaught(0, 200, 0));
        t.refused("45 odds: none of nobody is half", 20, x -> x.odds(0, 200, 0, 20));
        t.refused("46 right", NO_CHILD, x -> x.right(0, 0, 0));
    }

    private static void whenAllIsFull() {
        RefusedTest t = new RefusedTest("full: ", Yards::full);
        int[] counts = {60, 24, 23, 1500, 6, 2, 3, 50, 4, 300};
        for (int i = 0; i < counts.length; i++) {
            int what = i;
            check.due("full: 47 count " + what, counts[what], () -> Yards.full().count(what));
        }
        t.refused("3 come", -1, x -> x.come(0, 5, true));
        t.refused("3 come at a wrong age", ILLEGAL, x -> x.come(0, 21, true));
        t.refused("4 leave of one that left", 0, x -> x.leave(23));
        t.refused("5 visit of one that left", -1, x -> x.visit(23, 1));
        t.refused("11 years", BEYOND, x -> x.years(1));
        t.refused("11 60 years", BEYOND, x -> x.years(60));
        t.refused("11 61 years", ILLEGAL, x -> x.years(61));
        t.refused("12 feed", NONE, x -> x.feed(1, 2, 3, 4, 5));
        t.refused("13 law of 301 bytes", ILLEGAL, x -> x.law(301));
        t.refused("16 talk", -1, x -> x.talk(0, 1, 0, 0, 0));
        t.refused("16 talk with one that left", -1, x -> x.talk(0, 23, 0, 0, 0));
        t.refused("16 talk of two yards", -1, x -> x.talk(0, 8, 0, 0, 0));
        t.refused("16 talk of one", ILLEGAL, x -> x.talk(1, 1, 0, 0, 0));
        t.refused("17 run", 0, x -> x.run(0, 200));
        t.refused("18 note", OUTSIDE, x -> x.note(1500, 0));
        t.refused("25 film", -1, x -> x.film());
        t.refused("27 gap that was", 0, x -> x.gap(0, 29));
        t.refused("27 gap of film 3", OUTSIDE, x -> x.gap(3, 0));
        t.refused("27 gap of a talk too far", ILLEGAL, x -> x.gap(0, 30));
        t.refused("27 gap of a talk that did not come", ILLEGAL, x -> x.gap(2, 50));
        t.refused("35 image", -1, x -> x.image());
        t.changesNothing("30 trial", x -> x.trial(0, 200, 2, 0));
        t.changesNothing("31 fewest", x -> x.fewest(0, 200, 100, 1));
        t.changesNothing("32 needed", x -> x.needed(0, 200, 0));
        t.changesNothing("34 meets", x -> x.meets(0, 1));
        t.changesNothing("44 untaught", x -> x.untaught(0, 200, 0));
        t.changesNothing("45 odds", x -> x.odds(0, 200, 0, 20));
    }

    private static void answersInAnOrdinaryYard() {
        RefusedTest t = new RefusedTest("some: ", Yards::some);
        t.refused("4 leave of one that left", 0, x -> x.leave(3));
        t.refused("5 visit of one that left", -1, x -> x.visit(3, 2));
        t.refused("16 talk with one that left", -2, x -> x.talk(0, 3, 0, 0, 0));
        t.refused("16 talk by one that left", -2, x -> x.talk(3, 0, 0, 0, 0));
        t.refused("16 talk of two yards", -2, x -> x.talk(0, 4, 0, 0, 0));
        t.refused("17 run of none", 0, x -> x.run(0, 0));
        t.refused("17 run of one child", 0, x -> x.run(1, 200));
        t.refused("17 run of no child", 0, x -> x.run(2, 200));
        t.refused("25 film while one is on", -2, x -> x.film());
        t.refused("27 gap that was", 0, x -> x.gap(0, 1));
        t.refused("34 meets one that left", NONE, x -> x.meets(0, 3));
        t.refused("34 meets one of another yard", NONE, x -> x.meets(4, 0));
        t.refused("33 unlike a yard of nobody", NONE, x -> x.unlike(0, 2));
        t.refused("38 word of nobody", NONE, x -> x.word(2, 7));
        t.refused("39 blurred of nobody", NONE, x -> x.blurred(2, 0));
        t.refused("40 nearest of nobody", NONE, x -> x.nearest(2));
        t.refused("46 right where it has none", NONE, x -> x.right(4, 0, 16));
    }

    private static void exceptionsInAnOrdinaryYard() {
        RefusedTest t = new RefusedTest("some: ", Yards::some);
        t.refused("11 58 years", BEYOND, x -> x.years(58));
        t.refused("11 60 years", BEYOND, x -> x.years(60));
        t.refused("16 talk of one", ILLEGAL, x -> x.talk(1, 1, 0, 0, 0));
        t.refused("16 talk of one that left with itself", ILLEGAL, x -> x.talk(3, 3, 0, 0, 0));
        t.refused("34 meets itself", ILLEGAL, x -> x.meets(1, 1));
        t.refused("34 meets itself, having left", ILLEGAL, x -> x.meets(3, 3));
        t.refused("46 right from above to", ILLEGAL, x -> x.right(0, 1, 0));
        t.refused("46 right from far above to", ILLEGAL, x -> x.right(0, Integer.MAX_VALUE, Integer.MIN_VALUE));
        t.refused("10 set of wear as a point", ILLEGAL, x -> x.set(1, 1000));
        t.refused("10 set of a point as wear", ILLEGAL, x -> x.set(0, 0));
    }

    /** The exception named first wins; an exception wins over an answer. */
    private static void twoThingsWrong() {
        RefusedTest t = new RefusedTest("some: ", Yards::some);
        t.refused("5 visit: child and yard", NO_CHILD, x -> x.visit(6, 3));
        t.refused("5 visit: left, and no yard", ILLEGAL, x -> x.visit(3, 3));
        t.refused("6 of: child and what", NO_CHILD, x -> x.of(-1, 7));
        t.refused("7 sign: child and concept", NO_CHILD, x -> x.sign(6, 8, 16));
        t.refused("8 order: child and order", NO_CHILD, x -> x.order(6, 6));
        t.refused("9 holds: child and order", NO_CHILD, x -> x.holds(-1, -1));
        t.refused("16 talk: child and meaning", NO_CHILD, x -> x.talk(0, 6, 4, 0, 0));
        t.refused("16 talk: child, and they are one", NO_CHILD, x -> x.talk(6, 6, 0, 0, 0));
        t.refused("16 talk: left, and no meaning", ILLEGAL, x -> x.talk(0, 3, 0, 0, 4));
        t.refused("18 note: talk and what", OUTSIDE, x -> x.note(17, 17));
        t.refused("22 back: child and order", NO_CHILD, x -> x.back(6, 6, 0));
        t.refused("27 gap: film and talk", OUTSIDE, x -> x.gap(2, -1));
        t.refused("30 trial: law and yard", OUTSIDE, x -> x.trial(3, 0, 2, 0));
        t.refused("30 trial: law and order", OUTSIDE, x -> x.trial(0, 201, -2, 6));
        t.refused("34 meets: child, and they are one", NO_CHILD, x -> x.meets(-1, -1));
        t.refused("41 since: child and order", NO_CHILD, x -> x.since(6, 6));
        t.refused("42 taught: child and order", NO_CHILD, x -> x.taught(6, -1));
        t.refused("43 root: child and order", NO_CHILD, x -> x.root(6, 6));
        t.refused("46 right: child, and from above to", NO_CHILD, x -> x.right(6, 1, 0));
    }

    private static void callsThatOnlyAsk() {
        RefusedTest t = new RefusedTest("some: ", Yards::some);
        t.changesNothing("6 of", x -> x.of(1, 6));
        t.changesNothing("9 holds", x -> x.holds(1, 0));
        t.changesNothing("14 fault", x -> x.fault());
        t.changesNothing("19 share", x -> x.share(3, NONE, 0, true));
        t.changesNothing("20 held", x -> x.held(0, 0));
        t.changesNothing("22 back", x -> x.back(1, 0, NONE));
        t.changesNothing("28 fits", x -> x.fits(0, 0));
        t.changesNothing("29 read", x -> x.read());
        t.changesNothing("30 trial", x -> x.trial(0, 200, 0, 0));
        t.changesNothing("31 fewest", x -> x.fewest(0, 200, 100, 1));
        t.changesNothing("32 needed", x -> x.needed(0, 200, 0));
        t.changesNothing("33 unlike", x -> x.unlike(0, 1));
        t.changesNothing("34 meets, with draws", x -> x.meets(5, 2));
        t.changesNothing("37 plain", x -> x.plain(2));
        t.changesNothing("39 blurred", x -> x.blurred(0, NONE));
        t.changesNothing("43 root", x -> x.root(1, 0));
        t.changesNothing("44 untaught", x -> x.untaught(0, 200, 0));
        t.changesNothing("45 odds", x -> x.odds(0, 200, 0, 20));
        t.changesNothing("46 right", x -> x.right(0, 0, 99));
        t.changesNothing("47 count", x -> x.count(7));
    }

    /** "The first n bytes of the TAPE (empty then)": it stays by the exception alone. */
    private static void aLawTooManyEmptiesTheTapeAlone() {
        check.due("13: there are 6", -1, () -> Yards.full().law(8));
        Shown.Making without = () -> {
            YardTalk x = Yards.full();
            x.law(0);
            return x;
        };
        check.due("13: the tape is empty then", 0, () -> without.make().count(9));
        check.due("14: without a fault", NONE, () -> without.make().fault());
        RefusedTest t = new RefusedTest("full, the tape empty: ", without);
        t.refused("13 a 7th law", -1, x -> x.law(0));
        t.refused("13 law of 1 byte", ILLEGAL, x -> x.law(1));
        t.changesNothing("13 a 7th law of 20 bytes", x -> {
            x.feed(1, 2, 3, 4, 5);
            return x.law(20);
        });
    }
}
