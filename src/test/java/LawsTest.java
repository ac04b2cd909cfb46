/** Texts of laws: faults and their places, values and conditions, what the words mean. */
public final class LawsTest {
    private static final Check check = new Check();

    public static void main(String[] args) {
        soundTexts();
        cannotStand();
        tooGreat();
        tooMany();
        openAtOneTime();
        theFirstFault();
        values();
        facts();
        ageWhereHeldIsAsked();
        ageInTalks();
        ageInFilmsAndImages();
        conditions();
        lastClause();
        limits();
        weights();
        check.end();
    }

    private static void sound(String text) {
        check.due("law '" + text + "'", "0 -1", () -> {
            YardTalk x = new YardTalk();
            return Check.law(x, text) + " " + x.fault();
        });
    }

    private static void fault(int kind, int place, String text) {
        check.due("law '" + text + "'", kind - 10 + " " + place, () -> {
            YardTalk x = new YardTalk();
            return Check.law(x, text) + " " + x.fault();
        });
    }

    private static void soundTexts() {
        sound("");
        sound("   ");
        sound("learn5;");
        sound("  learn 5 ; order 6;lose 0;must 999 ;  ");
        sound("must 0000000000000000000000000000012;");
        sound("must 5if age<3;");
        sound("must least(1,most(2,3))*(there)/talks-weight if not[right=1 or shown=0 and 1>0];");
        sound("must ((((((1))))));");
        sound("must (1)+(1)+(1)+(1)+(1)+(1)+(1)+(1);");
        sound("must 1 if not not not not not not 1=1;");
        sound("must 1 if not 1=1 and not 1=1 and not 1=1 and not 1=1 and not 1=1 and not 1=1 and not 1=1;");
        sound("must 1 if [[[[[[1=1]]]]]];");
        sound("must 1 if not [not [not least(1,2)=1]];");
        sound("must 1;".repeat(12) + "  ");
        sound("must 1;" + " ".repeat(293));
    }

    private static void cannotStand() {
        fault(1, 0, ";");
        fault(1, 0, "5;");
        fault(1, 0, "mus 5;");
        fault(1, 0, "musts 5;");
        fault(1, 0, "Must 5;");
        fault(1, 2, "  if 5;");
        fault(1, 4, "must");
        fault(1, 6, "must  ");
        fault(1, 6, "must 5");
        fault(1, 9, "must 5   ");
        fault(1, 8, "must 5 +;");
        fault(1, 5, "must -5;");
        fault(1, 7, "must 5 5;");
        fault(1, 7, "must 5 1000;");
        fault(1, 7, "must 5 age;");
        fault(1, 5, "must ages;");
        fault(1, 5, "must agez;");
        fault(1, 5, "must aage;");
        fault(1, 8, "must age`;");
        fault(1, 8, "must age{;");
        fault(1, 6, "must 5:;");
        fault(1, 5, "must if 1=1;");
        fault(1, 10, "must 5 if ;");
        fault(1, 11, "must 5 if 1;");
        fault(1, 13, "must 5 if 1= ;");
        fault(1, 13, "must 5 if 1=1=1;");
        fault(1, 12, "must 5 if (1=1);");
        fault(1, 10, "must 5 if ]1=1;");
        fault(1, 14, "must 5 if [1=1;");
        fault(1, 13, "must 5 if 1=1];");
        fault(1, 16, "must 5 if 1=1 or;");
        fault(1, 14, "must 5 if 1=1 if 1=1;");
        fault(1, 13, "must 5 if not;");
        fault(1, 13, "must 5 if 1=1not;");
        fault(1, 10, "must 5 if notage=1;");
        fault(1, 11, "must least 3;");
        fault(1, 12, "must least(3);");
        fault(1, 14, "must least(3,3,3);");
        fault(1, 6, "must ();");
        fault(1, 7, "must (1;");
        fault(1, 6, "must 1);");
        fault(1, 4, "must\t5;");
        fault(1, 6, "must 5" + (char) 233);
        fault(1, 6, "must 5\u0000");
        fault(1, 7, "must 5;;");
        fault(1, 7, "must 1;x");
        fault(1, 84, "must 1;".repeat(12) + "x 1;");
        fault(1, 84, "must 1;".repeat(12) + ";");
        fault(1, 10, "must 1 if <((((((((1;");
    }

    private static void tooGreat() {
        fault(2, 5, "must 1000;");
        fault(2, 5, "must 001000;");
        fault(2, 5, "must 4294967297;");
        fault(2, 5, "must 99999999999999999999999999999999;");
        fault(2, 5, "must 1000");
        fault(2, 12, "must 5 if 1=1000;");
        fault(2, 10, "must 5 if 1000;");
        fault(2, 11, "must ((((((1000))))));");
    }

    private static void tooMany() {
        fault(3, 84, "must 1;".repeat(12) + "must 1;");
        fault(3, 86, "must 1;".repeat(12) + "  lose");
        fault(3, 11, "must (((((((1)))))));");
        fault(3, 16, "must ((((((least(1,2)))))));");
        fault(3, 31, "must 1 if not not not not not [not [1=1]];");
        fault(3, 34, "must 1 if not not not not not not not 1=1;");
        fault(3, 34, "must 1 if not not not not not not (1)=1;");
        fault(3, 16, "must 1 if [[[[[[[1=1]]]]]]];");
        fault(1, 11, "must ((((((;");
    }

    private static void openAtOneTime() {
        for (String text : new String[] {"must @;", "must 1+@;", "must 1-1-@;", "must 1*@;", "must 1/1/@;", "must (1)+@;",
                "must least(1,1)*@;", "must 1 if @=1;", "must 1 if 1=@;", "must 1 if not 1=1 and 1>@;",
                "must 1 if [1=1] or 1<@;", "must 1 if 1=1 and @=1;", "must 1 if 1=1 or @=1;"}) {
            openValues(0, text);
        }
        for (String text : new String[] {"must (@);", "must (1+@);", "must (1*@);", "must least(@,1);", "must most(1,@);",
                "must most(1,1-1/@);", "must 1 if not 1=@;", "must 1 if not @=1;", "must 1 if [1=@];",
                "must 1 if [1=1 or 1=@];", "must 1 if [1=1 and 1=@];", "must 1 if [1=1 or not 1=1 or @=1];"}) {
            openValues(1, text);
        }
        for (String text : new String[] {"must (1+(1*@));", "must (least(1,@));", "must 1 if not not 1=@;",
                "must 1 if [not @=1];", "must 1 if not [1=1 or 1=@];", "must 1 if not [1=1 and @=1];",
                "must 1 if not (1+@)=1;", "must 1 if [1=1 and 1=(1-@)];"}) {
            openValues(2, text);
        }
        for (String text : new String[] {"must 1 if @;", "must 1 if 1=1 or @;", "must 1 if 1=1 and @;",
                "must 1 if not 1=1 and @;", "must 1 if [1=1] or @;", "must 1 if (1)=(1) or @;"}) {
            openConditions(0, text);
        }
        for (String text : new String[] {"must 1 if [@];", "must 1 if not @;", "must 1 if [1=1 or @];",
                "must 1 if [1=1 and @];", "must 1 if [not 1=1 or not 1=1 and @];"}) {
            openConditions(1, text);
        }
        for (String text : new String[] {"must 1 if [not @];", "must 1 if not not @;", "must 1 if not [1=1 or @];",
                "must 1 if not [1=1 and @];", "must 1 if [[1=1] and [1=1 or @]];"}) {
            openConditions(2, text);
        }
    }

    /** Of two faults in a text, or more. */
    private static void theFirstFault() {
        fault(1, 0, "foo;must 1000;");
        fault(1, 5, "must ;must 1000;");
        fault(1, 7, "must 1+;x");
        fault(1, 7, "must 1*;x");
        fault(1, 7, "must 5 1000;");
        fault(1, 7, "must 1 must 1000;");
        fault(1, 7, "must (5;must 1000;");
        fault(1, 11, "must least 5;must 1000;");
        fault(1, 12, "must least(5;must 1000;");
        fault(1, 13, "must most(5,5;must 1000;");
        fault(1, 12, "must most(5,;x");
        fault(1, 10, "must 1 if ;x");
        fault(1, 11, "must 1 if 5;foo");
        fault(1, 11, "must 1 if 1;must 1000;");
        fault(1, 12, "must 1 if 1=;x");
        fault(1, 14, "must 1 if [1=1;must 1000;");
        fault(1, 14, "must 1 if not ;x");
        fault(1, 17, "must 1 if 1=1 or ;x");
        fault(1, 18, "must 1 if 1=1 and ;x");
        fault(2, 5, "must 1000;foo");
        fault(2, 5, "must 1000 1;");
        fault(2, 7, "must 1+1000 1;");
        fault(2, 12, "must 1 if 1=1000;foo");
        fault(3, 11, "must (((((((1000;");
        fault(3, 16, "must 1 if [[[[[[[1000;");
        fault(3, 34, "must 1 if not not not not not not not 1000;");
        fault(3, 84, "must 1;".repeat(12) + "must 1000;");
        fault(1, 84, "must 1;".repeat(12) + "foo 1000;");
        fault(1, 84, "must 1;".repeat(11) + "must 1 must 1;");
    }

    /** At the text's @ so many are open: up to six in all may be, and the seventh is at fault. */
    private static void openValues(int already, String text) {
        int at = text.indexOf('@');
        int more = 6 - already;
        sound(text.replace("@", "(".repeat(more) + "1" + ")".repeat(more)));
        sound(text.replace("@", "(".repeat(more - 1) + "most(1,1)" + ")".repeat(more - 1)));
        fault(3, at + more, text.replace("@", "(".repeat(more + 1) + "1" + ")".repeat(more + 1)));
        fault(3, at + more + 4, text.replace("@", "(".repeat(more) + "most(1,1)" + ")".repeat(more)));
    }

    private static void openConditions(int already, String text) {
        int at = text.indexOf('@');
        int more = 6 - already;
        sound(text.replace("@", "[".repeat(more) + "1=1" + "]".repeat(more)));
        sound(text.replace("@", "not ".repeat(more) + "1=1"));
        fault(3, at + more, text.replace("@", "[".repeat(more + 1) + "1=1" + "]".repeat(more + 1)));
        fault(3, at + 4 * more, text.replace("@", "not ".repeat(more + 1) + "1=1"));
        fault(3, at + 4 * more + 2, text.replace("@", "not ".repeat(more) + "1=(1)"));
    }

    /** What a law's learn is worth to a child that came at 8, in a talk that is shown and not right. */
    private static String learnt(String law) {
        return learnt(law, 0);
    }

    private static String learnt(String law, int years) {
        YardTalk x = new YardTalk();
        x.come(0, 20, true);
        x.come(0, 8, false);
        x.set(1, 100);
        x.years(years);
        int number = Check.law(x, law);
        if (number < 0) {
            return "fault " + number;
        }
        x.force(number);
        x.talk(0, 1, 0, 0, 1);
        return String.valueOf(x.sign(1, 0, 0));
    }

    private static void value(int want, String expression) {
        check.due("learn " + expression, want, () -> learnt("learn " + expression + ";"));
    }

    private static void values() {
        value(7, "7");
        value(11, "5+3*2");
        value(16, "(5+3)*2");
        value(3, "7/2");
        value(7, "(0-7)/2+10");
        value(7, "10+7/(0-2)");
        value(1, "5/0+1");
        value(0, "5/(3-3)");
        value(6, "1-2-3+10");
        value(2, "100/10/5");
        value(50, "100/10*5");
        value(3, "least(3,4)");
        value(4, "most(3,4)");
        value(5, "least(9,2+3)");
        value(9, "most(9,2+3)");
        value(0, "3-4");
        value(999, "999+1");
        value(0, "999*999*999*3");
        value(999, "999*999*999*5");
        value(5, "512*512*512*16/(0-1)/(512*512*512*16)+4");
    }

    private static void facts() {
        value(8, "age");
        value(1, "shown");
        value(5, "right+5");
        value(5, "weight+5");
        value(5, "talks+5");
        value(5, "there+5");
        check.due("there, by then", 4, () -> learnt("learn there;", 4));
        check.due("age is as it is now", 12, () -> learnt("learn age;", 4));
        YardTalk x = new YardTalk();
        x.come(0, 20, true);
        x.come(0, 8, false);
        x.set(1, 0);
        x.force(Check.law(x, "learn 100+talks*10+right*5+shown;"));
        x.talk(0, 1, 0, 0, 0);
        x.talk(0, 1, 0, 0, 0);
        x.talk(1, 0, 0, 0, 0);
        check.due("talks that it took", 2, () -> x.of(1, 4));
        int before = x.sign(1, 7, 4);
        x.set(1, 100);
        x.talk(0, 1, 0, 3, 1);
        check.due("the talk itself is not counted", 121 + 5 * x.note(3, 14), () -> x.sign(1, 7, 7));
        check.due("another sign is not learnt", Math.max(0, before - 2), () -> x.sign(1, 7, 4));
    }

    /** Two teachers that came at 20; by the law they hold an order no longer when they are 21. */
    private static void ageWhereHeldIsAsked() {
        YardTalk x = new YardTalk();
        x.come(0, 20, true);
        x.come(0, 20, true);
        x.force(Check.law(x, "must 999 if age>20;"));
        check.due("age 20: holds", true, () -> x.holds(0, 0));
        check.due("age 20: orders held", 1, () -> x.of(0, 6));
        check.due("age 20: held", 2, () -> x.held(0, 0));
        check.due("age 20: trial", 2, () -> x.trial(0, 0, 0, 0));
        check.due("age 20: fewest", 2, () -> x.fewest(0, 0, 100, 0));
        check.due("age 20: odds", 3, () -> x.odds(0, 0, 0, 3));
        x.years(1);
        check.due("age 21: holds", false, () -> x.holds(0, 0));
        check.due("age 21: orders held", 0, () -> x.of(0, 6));
        check.due("age 21: held", 0, () -> x.held(0, 0));
        check.due("age 21: trial", 0, () -> x.trial(0, 0, 0, 0));
        check.due("age 21: trial by none", 2, () -> x.trial(0, 0, YardTalk.NONE, 0));
        check.due("age 21: fewest", YardTalk.NONE, () -> x.fewest(0, 0, 100, 0));
        check.due("age 21: odds", 0, () -> x.odds(0, 0, 0, 3));
        x.come(0, 20, true);
        check.due("one that comes now is 20", true, () -> x.holds(2, 0));
        check.due("one that comes now alone", 1, () -> x.held(0, 0));
        x.force(Check.law(x, "must 999;must 100 if age>20;"));
        check.due("needed for those who are 21", 2, () -> x.needed(0, 0, 0));
        x.leave(0);
        x.leave(1);
        check.due("not needed for the one who is 20", 0, () -> x.needed(0, 0, 0));
        check.due("nor does it hold it", false, () -> x.holds(2, 0));
        x.leave(2);
        x.years(1);
        check.due("one that has left grows older, too", true, () -> x.holds(2, 0));
    }

    private static void ageInTalks() {
        YardTalk x = new YardTalk();
        x.come(0, 20, true);
        x.come(0, 8, false);
        x.set(1, 100);
        x.years(1);
        x.force(Check.law(x, "learn age*2;order age*3;lose age;"));
        x.talk(0, 1, 0, 0, 1);
        check.due("learn by age 9", 18, () -> x.sign(1, 0, 0));
        check.due("order by age 9", 27, () -> x.order(1, 0));
        check.due("lose by age 9", 1, () -> x.sign(1, 0, 5));
        x.years(2);
        x.come(0, 5, false);
        x.years(2);
        x.force(Check.law(x, "learn age;"));
        x.talk(0, 2, 0, 0, 1);
        check.due("one that came at 5, two years ago", 7, () -> x.sign(2, 0, 0));

        YardTalk y = new YardTalk();
        y.come(0, 20, true);
        y.come(0, 6, false);
        y.set(1, 100);
        y.force(Check.law(y, "must 300;must 5 if age>9;"));
        y.talk(0, 1, 0, 0, 1);
        check.due("no rule at 6", 10, () -> y.order(1, 0));
        y.years(3);
        y.talk(0, 1, 0, 0, 1);
        check.due("no rule at 9", 20, () -> y.order(1, 0));
        check.due("the young one has not held it", YardTalk.NONE, () -> y.since(1, 0));
        y.years(1);
        y.talk(0, 1, 0, 0, 1);
        check.due("a rule at 10, of one still young", 999, () -> y.order(1, 0));
        check.due("since then", 2, () -> y.since(1, 0));

        YardTalk z = new YardTalk();
        z.come(0, 20, true);
        z.come(0, 15, false);
        z.force(Check.law(z, "must 999 if age<21;"));
        z.talk(0, 1, 0, 0, 1);
        check.due("nobody holds it at 20", YardTalk.NONE, () -> z.first(0, 0));
        z.years(1);
        z.talk(0, 1, 0, 0, 1);
        check.due("the first to hold it, at 21", 0, () -> z.first(0, 0));
        check.due("the talk of that", 1, () -> z.first(0, 1));
    }

    /** An image has its YEAR, so the age goes back with it; so has a film. */
    private static void ageInFilmsAndImages() {
        YardTalk x = new YardTalk();
        x.come(0, 20, true);
        x.come(0, 8, false);
        x.set(1, 100);
        x.force(Check.law(x, "lose 0;learn 0 if age>8;"));
        x.image();
        x.film();
        x.talk(0, 1, 0, 0, 0);
        x.talk(1, 0, 0, 0, 0);
        check.due("at 8 the teacher's sign is learnt", 0, () -> x.note(1, 7));
        x.restore();
        x.years(1);
        x.film();
        x.talk(0, 1, 0, 0, 0);
        x.talk(1, 0, 0, 0, 0);
        check.due("at 9 it is not", 5, () -> x.note(3, 7));
        x.years(30);
        check.due("the first film, from its year on", 2, () -> x.fits(0, 0));
        check.due("the second, from its own", 2, () -> x.fits(1, 0));
        check.due("none in force makes it otherwise", 1, () -> x.fits(1, YardTalk.NONE));
        check.due("the law alone fits both", 1, () -> x.read());

        YardTalk y = new YardTalk();
        y.come(0, 20, true);
        y.force(Check.law(y, "must 999 if age>20;"));
        y.image();
        y.years(1);
        check.due("21", false, () -> y.holds(0, 0));
        y.restore();
        check.due("20 again", true, () -> y.holds(0, 0));
    }

    private static void holds(boolean want, String condition) {
        check.due(condition, want ? 5 : 10, () -> learnt("learn 5 if " + condition + ";"));
    }

    private static void conditions() {
        holds(true, "1=1");
        holds(false, "1=2");
        holds(true, "1<2");
        holds(false, "2<2");
        holds(true, "3>2");
        holds(false, "2>2");
        holds(false, "not 1=1");
        holds(true, "not not 1=1");
        holds(false, "not 3>2");
        holds(false, "not 2<3");
        holds(true, "3>2 and 2<3 and 1=1");
        holds(true, "1=1 or 1=1 and 1=2");
        holds(false, "[1=1 or 1=1] and 1=2");
        holds(true, "1=2 and 1=2 or 1=1");
        holds(false, "not 1=2 and 1=2");
        holds(true, "not [1=2 and 1=2]");
        holds(true, "not 1=1 or 1=1");
        holds(false, "not [not [1=2]]");
        holds(true, "0-1<0");
        holds(true, "age=8 and shown=1 and right=0 and weight=0 and talks=0 and there=0");
        holds(false, "1=1 and 1=1 and 1=2");
        holds(true, "1=2 or 1=2 or 1=1");
        holds(true, "1=1 or 1=1");
        holds(true, "1=1 or 1=2");
        holds(true, "1=2 or 1=1");
        holds(false, "1=2 or 1=2");
        holds(true, "1=1 and 1=1");
        holds(false, "1=1 and 1=2");
        holds(false, "1=2 and 1=1");
        holds(false, "1=2 and 1=2");
        holds(false, "not [1=1 or 1=1]");
        holds(true, "not [1=2 or 1=2]");
        holds(true, "not [1=1 and 1=2]");
        holds(false, "not [1=1 and 1=1]");
        holds(false, "2=1");
        holds(false, "1>2");
        holds(false, "2<1");
    }

    private static void lastClause() {
        check.due("the last", 7, () -> learnt("learn 5;learn 7;"));
        check.due("the last that holds", 5, () -> learnt("learn 5;learn 7 if 1=2;"));
        check.due("a later one without", 7, () -> learnt("learn 5 if 1=1;learn 7;"));
        check.due("none holds", 10, () -> learnt("learn 5 if 1=2;"));
        check.due("of that word", 10, () -> learnt("order 5;lose 5;must 5;"));
        check.due("an empty one", 10, () -> learnt(""));
    }

    private static void limits() {
        YardTalk x = new YardTalk();
        x.come(0, 20, true);
        x.come(0, 5, false);
        Check.law(x, "must 0-5;");
        Check.law(x, "must 999*9;");
        x.force(0);
        check.due("0 at least", 6, () -> x.of(1, 6));
        x.set(1, 100);
        x.force(Check.law(x, "order 999*9;lose 0-99;learn 0-1;must 999*9;"));
        x.talk(0, 1, 0, 0, 1);
        check.due("999 at most is must's, too", 999, () -> x.order(1, 0));
        check.due("held by 999", true, () -> x.holds(1, 0));
        check.due("lose 0", 10, () -> x.sign(1, 0, 5));
        check.due("learn 0", 0, () -> x.sign(1, 0, 0));
    }

    /** weight is of the sign or order that would change, as it is ahead of it. */
    private static void weights() {
        YardTalk x = new YardTalk();
        x.come(0, 20, true);
        x.come(0, 8, false);
        x.set(1, 100);
        x.force(Check.law(x, "learn weight+3;lose weight/2;order weight+7;must weight+1 if weight=7;"));
        x.talk(0, 1, 0, 0, 0);
        check.due("3, and then 6 more", 9, () -> x.sign(1, 0, 0));
        check.due("10 less 5 less 2", 3, () -> x.sign(1, 0, 5));
        check.due("an order by its own weight", 7, () -> x.order(1, 0));
        check.due("must by the order's weight", false, () -> x.holds(1, 0));
        x.talk(0, 1, 0, 0, 0);
        check.due("7 and 14 more", 21, () -> x.order(1, 0));
        x.come(0, 15, false);
        x.force(Check.law(x, "order 1;lose 1;lose weight/3 if weight=21;"));
        x.seeds(1, 1);
        x.talk(2, 1, 1, 1, 1);
        check.due("a drawn order, 2, is learnt", 1, () -> x.order(1, 2));
        check.due("21 less 7", 14, () -> x.order(1, 0));
    }
}
