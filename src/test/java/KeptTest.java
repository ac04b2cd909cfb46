/** What is kept, empty and full: the tape, laws, notes, films, images; and the bounds of what is asked of them. */
public final class KeptTest {
    private static final int NONE = YardTalk.NONE;
    private static final Check check = new Check();

    public static void main(String[] args) {
        tapeToTheLastByte();
        tapeOfWhichPartIsRead();
        sixLaws();
        notesToTheLast();
        filmsOfNoneAndOfAHundred();
        filmAtTheLastNote();
        filmsEndByWhatIsDone();
        filmsGoOn();
        filmsImage();
        gapsAtBothEnds();
        readOfAll();
        fourImages();
        numbersThatComeAgain();
        longestRoot();
        fewestOfAll();
        neededOfTwelve();
        oddsAtHalf();
        meetsOne();
        blurredToTheLastPair();
        oneSignIsNotBlurred();
        check.end();
    }

    private static void due(String what, Object want, Check.Call call) {
        check.due(what, want, call);
    }

    private static void tapeToTheLastByte() {
        texts("must" + " ".repeat(294) + "1;", "0 -1");
        texts("must" + " ".repeat(295) + "1", "-9 300");
        texts("must 1;" + " ".repeat(292) + "x", "-9 299");
        texts("must 1;" + " ".repeat(293), "0 -1");
        texts(" ".repeat(300), "0 -1");
        texts("a".repeat(300), "-9 0");
        texts("must " + "0".repeat(291) + "999;", "0 -1");
        texts("must " + "0".repeat(290) + "1000;", "-8 5");
        texts("must " + "9".repeat(295), "-8 5");
        texts("must 1" + "+1".repeat(146) + " ;", "0 -1");
        texts("must 1" + "+1".repeat(147), "-9 300");
        texts("must 1 if 1=1" + " or 1=1".repeat(40) + ";".repeat(7), "-9 294");
        texts("must 1 if 1=1" + " or 1=1".repeat(40) + ";      ", "0 -1");
        texts("must 1;".repeat(11) + " ".repeat(216) + "must 1;", "0 -1");
        texts("must 1;".repeat(12) + " ".repeat(209) + "must 1;", "-7 293");
        // The whole of it is worked: 145 times 1.
        YardTalk x = Yards.with("t");
        x.force(Check.law(x, "must 355" + "+1".repeat(145) + ";"));
        due("4: 500 of all the 299 bytes", true, () -> x.holds(0, 0));
        x.force(Check.law(x, "must 356" + "+1".repeat(145) + " ;"));
        due("4: 501 of all the 300 bytes", false, () -> x.holds(0, 0));
    }

    private static void texts(String text, String want) {
        check.due("4: " + text.length() + " bytes '" + text + "'", want, () -> {
            YardTalk x = new YardTalk();
            return Check.law(x, text) + " " + x.fault();
        });
    }

    private static void tapeOfWhichPartIsRead() {
        int[] lengths = {0, 1, 4, 6, 7, 8, 13, 14, 20};
        String[] answers = {"0 -1", "-9 0", "-9 4", "-9 6", "0 -1", "-9 7", "-9 13", "0 -1", "-9 14"};
        for (int i = 0; i < lengths.length; i++) {
            int n = lengths[i];
            YardTalk x = new YardTalk();
            int[] row = Check.numbers("must 1;must 2;");
            x.feed(row[0], row[1], row[2], row[3], row[4]);
            due("13: the first " + n, answers[i], () -> x.law(n) + " " + x.fault());
            due("13: all the tape is empty", 0, () -> x.count(9));
            due("13: nothing of it is left", "throws.IllegalArgumentException", () -> x.law(1));
            due("12: it begins anew", 20, () -> x.feed(0, 0, 0, 0, 0));
        }
        YardTalk y = new YardTalk();
        for (int i = 0; i < 14; i++) {
            y.feed(0x20202020, 0x20202020, 0x20202020, 0x20202020, 0x20202020);
        }
        due("12: 300 is not more than 300", 300, () -> y.feed(0x6c6f7365, 0x20202020, 0x20202020, 0x20202020, 0x20202037));
        due("12: 320 is", NONE, () -> y.feed(0, 0, 0, 0, 0x3b));
        due("12: the last byte is the last fed", -9, () -> y.law(300));
        due("14: at the length", 300, () -> y.fault());
    }

    private static void sixLaws() {
        YardTalk x = Yards.with("t");
        int[] musts = {499, 500, 501, 502, 500, 501};
        for (int i = 0; i < 6; i++) {
            int law = i;
            due("13: number " + law, law, () -> Check.law(x, "must " + musts[law] + ";"));
            due("13: laws", law + 1, () -> x.count(4));
        }
        due("13: no 7th", -1, () -> Check.law(x, "must 1;"));
        due("13: nor with a fault", -1, () -> Check.law(x, "must"));
        due("14: none", NONE, () -> x.fault());
        for (int i = 0; i < 6; i++) {
            int law = i;
            due("15: was", law - 1, () -> x.force(law));
            due("4: by law " + law, musts[law] <= 500, () -> x.holds(0, 0));
            due("30: by law " + law, musts[law] <= 500 ? 1 : 0, () -> x.trial(0, 0, law, 0));
        }
        due("15: no law 6", "throws.IndexOutOfBoundsException", () -> x.force(6));
        due("15: the last stays", 5, () -> x.force(NONE));
        // A text with a FAULT leaves nothing behind: the next one has its number and its clauses alone.
        YardTalk y = Yards.with("t");
        Check.law(y, "must 501;must 502;lose");
        due("13: the number is free still", 0, () -> Check.law(y, "lose 1;"));
        y.force(0);
        due("4: must is as without", true, () -> y.holds(0, 0));
    }

    private static void notesToTheLast() {
        YardTalk x = Yards.with("tt");
        x.years(60);
        for (int i = 0; i < 7; i++) {
            x.run(0, 200);
        }
        x.run(0, 98);
        due("16: 1,498", 1498, () -> x.count(3));
        due("16: one more", 1, () -> x.talk(0, 1, 3, 3, 3));
        due("17: the last by a run of 0", 0, () -> x.run(0, 0));
        due("16: the 1,500th", 1, () -> x.talk(1, 0, 3, 2, 1));
        due("16: 1,500 were", -1, () -> x.talk(0, 1, 0, 0, 0));
        due("17: none more", 0, () -> x.run(0, 1));
        due("18: the last of them", "60 1 0 3 2 1", () -> x.note(1499, 0) + " " + x.note(1499, 1) + " "
                + x.note(1499, 2) + " " + x.note(1499, 3) + " " + x.note(1499, 4) + " " + x.note(1499, 5));
        due("19: all of the year", 1500, () -> x.share(60, 3, 3, false));
        due("19: none of year 0", 0, () -> x.share(0, NONE, NONE, false));
        due("46: all were right", 1500, () -> x.right(0, 0, 1499));
        due("46: the last one", 1, () -> x.right(0, 1499, 1499));
        due("46: none beyond", NONE, () -> x.right(0, 1500, 1500));
        due("6: took and said", 1500, () -> x.of(0, 4) + x.of(0, 5));
        x.image();
        x.restore();
        due("36: NOTES stay, so none more", -1, () -> x.talk(0, 1, 0, 0, 0));
    }

    private static void filmsOfNoneAndOfAHundred() {
        YardTalk x = Yards.with("tl");
        due("25: begins", 0, () -> x.film());
        due("47: has none", 0, () -> x.count(7));
        due("28: all of none", 0, () -> x.fits(0, NONE));
        due("29: none fits", 64, () -> x.read());
        due("26: ends with none", 0, () -> x.end());
        due("27: no talk of it", "throws.IllegalArgumentException", () -> x.gap(0, 0));
        x.film();
        x.run(0, 98);
        x.talk(0, 1, 0, 0, 0);
        due("25: 99", 99, () -> x.count(7));
        due("27: no 100th yet", "throws.IllegalArgumentException", () -> x.gap(1, 99));
        x.talk(1, 0, 0, 0, 0);
        due("25: ended by the 100th", NONE, () -> x.count(7));
        due("26: none is on", -1, () -> x.end());
        due("27: the 100th can be a gap", 1, () -> x.gap(1, 99));
        due("27: no 101st", "throws.IllegalArgumentException", () -> x.gap(1, 100));
        due("28: all of it", 100, () -> x.fits(1, NONE));
        due("25: the next can begin at once", 2, () -> x.film());
        x.run(0, 150);
        due("25: ended in a run", NONE, () -> x.count(7));
        due("47: all talks are noted", 250, () -> x.count(3));
        due("28: the first 100 of them", 100, () -> x.fits(2, NONE));
        due("25: no 4th", -1, () -> x.film());
        due("27: no film 3", "throws.IndexOutOfBoundsException", () -> x.gap(3, 0));
    }

    private static void filmAtTheLastNote() {
        YardTalk x = Yards.with("tt");
        for (int i = 0; i < 7; i++) {
            x.run(0, 200);
        }
        x.run(0, 99);
        x.film();
        due("17: one more can be", 1, () -> x.run(0, 200));
        due("47: it is on, with one", 1, () -> x.count(7));
        due("16: none more", -1, () -> x.talk(0, 1, 0, 0, 0));
        due("26: one", 1, () -> x.end());
        due("25: one can begin", 1, () -> x.film());
        due("28: the last note fits", 1, () -> x.fits(0, NONE));
        due("26: it has none", 0, () -> x.end());
    }

    /** Each of these leaves all as it was, and ends a film all the same. */
    private static void filmsEndByWhatIsDone() {
        Shown.Doing[] doing = {x -> {
            x.seeds(x.count(11), x.count(10));
            return 0;
        }, x -> x.come(2, 9, false), x -> x.leave(2), x -> x.visit(0, 0), x -> x.set(0, 1000), x -> x.set(1, 50),
            x -> x.years(0), x -> x.force(NONE), x -> x.force(0), x -> x.restore()};
        for (int i = 0; i < doing.length; i++) {
            YardTalk x = Yards.with("tmt");
            Check.law(x, "must 7;");
            x.force(i == 8 ? 0 : NONE);
            x.image();
            x.film();
            x.run(0, 3);
            due("25: on", 3, () -> x.count(7));
            doing[i].to(x);
            due("25: ended by call " + i, NONE, () -> x.count(7));
            due("26: none is on", -1, () -> x.end());
            x.talk(0, 1, 0, 0, 0);
            due("25: it has its talks alone", 3, () -> x.fits(0, NONE));
            due("25: another one can begin", 1, () -> x.film());
        }
    }

    private static void filmsGoOn() {
        YardTalk x = Yards.some();
        due("25: on", 5, () -> x.count(7));
        x.feed(0, 0, 0, 0, 0);
        Check.law(x, "must 1;");
        x.law(0);
        x.image();
        x.gap(1, 4);
        x.gap(0, 0);
        due("25: by all these it goes on", 5, () -> x.count(7));
        x.talk(0, 1, 0, 0, 0);
        x.run(0, 2);
        due("25: with the talks that come", 8, () -> x.count(7));
        due("26: eight", 8, () -> x.end());
    }

    /** A late one draws its orders, signs are worn, some is shown: each part of the image is needed to fit. */
    private static void filmsImage() {
        YardTalk x = Yards.with("tyml");
        x.set(0, 10);
        x.set(1, 60);
        x.run(0, 9);
        Check.law(x, "learn 10 if there=0;learn 0 if there>0;");
        x.force(0);
        x.film();
        x.run(0, 90);
        x.end();
        due("28: as it was made", 90, () -> x.fits(0, 0));
        x.seeds(99, 98);
        x.set(0, 10000);
        x.set(1, 0);
        x.years(9);
        x.visit(0, 1);
        x.leave(1);
        x.come(0, 3, false);
        x.force(NONE);
        x.run(0, 50);
        due("28: from its image on, whatever was then", 90, () -> x.fits(0, 0));
        due("29: the law alone, or with none", x.fits(0, NONE) == 90 ? 65 : 1, () -> x.read());
    }

    private static void gapsAtBothEnds() {
        YardTalk x = Yards.with("tm");
        x.set(1, 100);
        Check.law(x, "learn 0;");
        x.talk(0, 1, 0, 0, 0);
        x.film();
        x.talk(0, 1, 1, 1, 1);
        x.talk(1, 0, 1, 1, 1);
        due("28: the law is unlike at the last one", 1, () -> x.fits(0, 0));
        due("29: it does not fit", 64, () -> x.read());
        due("27: the last is a gap", 1, () -> x.gap(0, 1));
        due("28: both are alike", 2, () -> x.fits(0, 0));
        due("29: it fits", 65, () -> x.read());
        due("27: the first, too", 1, () -> x.gap(0, 0));
        due("27: it was", 0, () -> x.gap(0, 0));
        due("28: all gaps", 2, () -> x.fits(0, 0));
        x.talk(1, 0, 1, 1, 1);
        due("28: a talk that comes is none", 2, () -> x.fits(0, 0));
        // A film's gaps are its own.
        x.end();
        x.film();
        x.talk(0, 1, 1, 1, 1);
        due("27: the next film has none", 1, () -> x.gap(1, 0));
    }

    private static void readOfAll() {
        YardTalk x = Yards.with("tt");
        for (int i = 0; i < 6; i++) {
            int bits = 64 + (1 << i) - 1;
            due("29: with no films all fit", bits, () -> x.read());
            Check.law(x, "lose 3;");
        }
        due("29: six, and none", 127, () -> x.read());
        for (int i = 0; i < 3; i++) {
            x.film();
            x.run(0, 5);
            x.end();
        }
        due("29: three films of teachers", 127, () -> x.read());
    }

    private static void fourImages() {
        YardTalk x = new YardTalk();
        for (int i = 1; i <= 4; i++) {
            int many = i;
            x.come(0, i, false);
            x.years(i);
            due("35: image " + many, many, () -> x.image());
        }
        x.years(40);
        due("35: no 5th", -1, () -> x.image());
        int[] years = {1, 3, 6, 10};
        for (int i = 3; i >= 0; i--) {
            int left = i;
            due("36: left", left, () -> x.restore());
            due("36: the latest", years[left], () -> x.count(0));
            due("36: its children", left + 1, () -> x.count(1));
            due("47: images", left, () -> x.count(8));
        }
        due("36: none", -1, () -> x.restore());
        due("36: all stays", "1 1", () -> x.count(0) + " " + x.count(1));
        for (int i = 1; i <= 4; i++) {
            int many = i;
            due("35: there is room again", many, () -> x.image());
        }
        due("35: full again", -1, () -> x.image());
    }

    private static void numbersThatComeAgain() {
        YardTalk x = Yards.with("t");
        x.set(1, 100);
        x.image();
        x.come(0, 8, false);
        x.force(Check.law(x, "order 100;"));
        x.talk(0, 1, 0, 0, 0);
        due("41: since", 0, () -> x.since(1, 0));
        x.restore();
        due("41: no such child now", "throws.NoSuchElementException", () -> x.since(1, 0));
        due("21: FIRST is not in the image", "1 0", () -> x.first(0, 0) + " " + x.first(0, 1));
        due("15: the law in force is", NONE, () -> x.count(5));
        x.come(0, 8, false);
        due("8: it holds none", 0, () -> x.order(1, 0));
        due("41: by its number", 0, () -> x.since(1, 0));
        due("22: by its number", 1, () -> x.back(1, 0, NONE));
        due("42: by its number", 0, () -> x.taught(1, 0));
        due("6: talks taken are as then", 0, () -> x.of(1, 4));
        due("6: and said", 0, () -> x.of(0, 5));
        due("46: notes by its number", x.note(0, 14), () -> x.right(1, 0, 0));
    }

    /** Each tells the next one its order: 24 in a row. */
    private static void longestRoot() {
        YardTalk x = new YardTalk();
        for (int i = 0; i < 24; i++) {
            x.come(0, 8, i == 0);
        }
        x.set(1, 100);
        for (int i = 0; i < 23; i++) {
            x.talk(i, i + 1, 0, 0, 0);
        }
        due("43: by 23 steps", 0, () -> x.root(23, 0));
        due("43: none", 0, () -> x.root(0, 0));
        due("42: the last was taught", 22, () -> x.taught(23, 0));
        x.talk(23, 1, 0, 0, 0);
        x.talk(23, 1, 0, 0, 0);
        due("43: all round but the first", 1, () -> x.root(23, 0));
        due("43: from the middle of it", 13, () -> x.root(12, 0));
        due("43: the one ahead of it", 2, () -> x.root(1, 0));
    }

    private static void fewestOfAll() {
        YardTalk x = new YardTalk();
        for (int i = 0; i < 24; i++) {
            x.come(0, 15, i == 23);
        }
        due("31: all of 24: 100 is not below 96", 24, () -> x.fewest(0, 0, 4, 0));
        due("31: 100 is below 120", NONE, () -> x.fewest(0, 0, 5, 0));
        due("31: the least hundredths", 24, () -> x.fewest(0, 0, 1, 0));
        YardTalk y = Yards.with("ttl");
        due("31: two at least", 2, () -> y.fewest(0, 0, 1, 0));
        due("31: all of two", 2, () -> y.fewest(0, 200, 100, 0));
        y.leave(0);
        due("31: the first two that are there", NONE, () -> y.fewest(0, 0, 51, 0));
        due("31: half of them", 2, () -> y.fewest(0, 0, 50, 0));
        y.leave(1);
        due("31: one is not two", NONE, () -> y.fewest(0, 0, 1, 0));
        y.leave(2);
        due("31: nor is none", NONE, () -> y.fewest(0, 0, 1, 0));
        // Those who stay talk alone: two late ones hold nothing, whoever else is in the yard.
        YardTalk z = Yards.with("yyt");
        z.set(1, 100);
        z.force(Check.law(z, "order 100;"));
        due("31: two young ones make a rule of what is drawn", true, () -> {
            int two = 0;
            for (int order = 0; order < 6; order++) {
                two += z.fewest(0, 200, 100, order) == 2 ? 1 : 0;
            }
            return two <= 1;
        });
    }

    private static void neededOfTwelve() {
        YardTalk x = Yards.with("tt");
        x.force(Check.law(x, "must 600;" + "lose 2;".repeat(10) + "must 400;"));
        due("32: the 12th", 2048, () -> x.needed(0, 0, 0));
        x.force(Check.law(x, "must 400;" + "lose 2;".repeat(10) + "must 400;"));
        due("32: each alone", 0, () -> x.needed(0, 0, 0));
        x.force(Check.law(x, "must 400;" + "must 600 if age=99;".repeat(11)));
        due("32: without the first it is 100 still", 0, () -> x.needed(0, 0, 0));
        x.force(Check.law(x, ""));
        due("32: a law of no clause", 0, () -> x.needed(0, 200, 0));
        due("32: more hold without it", 0, () -> {
            x.force(Check.law(x, "must 501;"));
            return x.needed(0, 0, 0);
        });
    }

    private static void oddsAtHalf() {
        for (int i = 1; i <= 4; i++) {
            YardTalk x = Yards.with("tttt".substring(0, 2) + "llll".substring(0, i));
            int want = i <= 2 ? 20 : 0;
            due("45: two of " + (2 + i), want, () -> x.odds(0, 0, 0, 20));
            due("45: one trial", want / 20, () -> x.odds(0, 200, 0, 1));
        }
        YardTalk y = Yards.with("t");
        due("45: one of one", 1, () -> y.odds(0, 200, 0, 1));
        due("45: none of one", 0, () -> y.odds(0, 200, 1, 20));
    }

    /** By order 2 (CHANCE 1) a late one takes all that a teacher says as 0 0 0. */
    private static void meetsOne() {
        YardTalk x = Yards.with("tlt");
        due("34: one alone", 1, () -> x.meets(0, 1));
        due("34: chance goes back, each time", 1, () -> x.meets(0, 1));
        due("34: all", 64, () -> x.meets(0, 2));
        due("34: no draw is left", 1, () -> x.count(10));
    }

    private static void blurredToTheLastPair() {
        YardTalk x = Yards.with("tt");
        x.set(0, 10);
        for (int act = 0; act < 4; act++) {
            Yards.say(x, 10, 0, 1, act, act, (act + 1) % 4);
        }
        due("39: four pairs", 4, () -> x.blurred(0, NONE));
        int[] pairs = {1, 19, 37, 55};
        for (int i = 0; i < 4; i++) {
            int k = i;
            due("39: pair " + k, pairs[k], () -> x.blurred(0, k));
        }
        due("39: no 5th", NONE, () -> x.blurred(0, 4));
        due("37: nothing is plain", 0, () -> x.plain(0));
        due("34: of each pair the least is taken", 8, () -> x.meets(0, 1));
    }

    /** Child 2 learns sign 0 for persons 0 and 1, for 1 is seen as 0: then they have one sign (that of 2, too). */
    private static void oneSignIsNotBlurred() {
        YardTalk x = Yards.with("ttm");
        x.set(1, 100);
        x.set(0, 10);
        Yards.say(x, 10, 0, 1, 0, 0, 1);
        due("39: two signs", 1, () -> x.blurred(0, NONE));
        Yards.say(x, 2, 0, 2, 0, 0, 1);
        x.leave(0);
        x.leave(1);
        due("38: one sign", "0 0", () -> x.word(0, 0) + " " + x.word(0, 1));
        due("39: it is not blurred", 0, () -> x.blurred(0, NONE));
        due("37: person 3 alone is, with four acts", 4, () -> x.plain(2));
    }
}
