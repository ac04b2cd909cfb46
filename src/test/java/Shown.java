import java.util.ArrayList;
import java.util.List;

/**
 * All that later calls show of an object. It is asked part by part, each part of an object made anew by the same
 * calls, for no object answers more than 512 of them.
 */
final class Shown {
    interface Making {
        YardTalk make();
    }

    interface Doing {
        Object to(YardTalk x);
    }

    interface Part {
        void ask(YardTalk x, List<String> into);
    }

    private static final int NONE = YardTalk.NONE;
    private static final List<Part> PARTS = List.of(Shown::countsAndChildren, Shown::signs, Shown::moreSigns,
            Shown::yards, Shown::held, Shown::notes, Shown::trials, Shown::films, Shown::laws, Shown::settings,
            Shown::images, Shown::talksToCome, Shown::childrenToCome);

    private Shown() {
    }

    /** What is shown of an object so made, when something (or nothing) has been done to it. */
    static List<String> behind(Making making, Doing doing) {
        List<String> shown = new ArrayList<>();
        for (Part part : PARTS) {
            YardTalk x = making.make();
            Check.answer(() -> doing.to(x));
            part.ask(x, shown);
        }
        return shown;
    }

    /** The first row that is not the same; "nothing" if all are. */
    static String firstChange(List<String> before, List<String> behind) {
        for (int i = 0; i < Math.max(before.size(), behind.size()); i++) {
            String was = i < before.size() ? before.get(i) : "not asked";
            String is = i < behind.size() ? behind.get(i) : "not asked";
            if (!was.equals(is)) {
                return was + " became " + is;
            }
        }
        return "nothing";
    }

    private static void put(List<String> into, String call, Check.Call answer) {
        into.add(call + " = " + Check.answer(answer));
    }

    private static void countsAndChildren(YardTalk x, List<String> into) {
        for (int i = -1; i <= 12; i++) {
            int what = i;
            put(into, "count " + what, () -> x.count(what));
        }
        put(into, "fault", () -> x.fault());
        for (int i = 0; i <= x.count(1); i++) {
            int child = i;
            for (int j = 0; j < 7; j++) {
                int what = j;
                put(into, "of " + child + " " + what, () -> x.of(child, what));
            }
            for (int j = 0; j < 6; j++) {
                int order = j;
                put(into, "order " + child + " " + order, () -> x.order(child, order));
            }
        }
    }

    private static void signs(YardTalk x, List<String> into) {
        for (int child = 0; child < Math.min(3, x.count(1)); child++) {
            signsOf(x, child, into);
        }
    }

    private static void moreSigns(YardTalk x, List<String> into) {
        for (int child = Math.max(3, x.count(1) - 3); child < x.count(1); child++) {
            signsOf(x, child, into);
        }
    }

    private static void signsOf(YardTalk x, int child, List<String> into) {
        for (int i = 0; i < 128; i++) {
            int concept = i / 16;
            int sign = i % 16;
            put(into, "sign " + child + " " + concept + " " + sign, () -> x.sign(child, concept, sign));
        }
    }

    private static void yards(YardTalk x, List<String> into) {
        for (int i = 0; i < 3; i++) {
            int yard = i;
            for (int j = 0; j < 16; j++) {
                int sign = j;
                put(into, "uses " + yard + " " + sign, () -> x.uses(yard, sign));
                put(into, "seen " + yard + " " + sign, () -> x.seen(yard, sign));
                put(into, "word " + yard + " " + sign, () -> x.word(yard, sign));
            }
            for (int j = 0; j < 6; j++) {
                int order = j;
                put(into, "held " + yard + " " + order, () -> x.held(yard, order));
                put(into, "unlike " + yard + " " + order, () -> x.unlike(yard, order));
            }
            put(into, "nearest " + yard, () -> x.nearest(yard));
            put(into, "blurred " + yard, () -> x.blurred(yard, NONE));
            put(into, "blurred first " + yard, () -> x.blurred(yard, 0));
        }
        for (int i = 0; i < x.count(1); i++) {
            int child = i;
            put(into, "plain " + child, () -> x.plain(child));
            put(into, "meets 0 " + child, () -> x.meets(0, child));
        }
    }

    private static void held(YardTalk x, List<String> into) {
        for (int i = 0; i < 6; i++) {
            int order = i;
            put(into, "first " + order, () -> x.first(order, 0));
            put(into, "first talk " + order, () -> x.first(order, 1));
            for (int j = 0; j < Math.min(12, x.count(1)); j++) {
                int child = j;
                put(into, "since " + child + " " + order, () -> x.since(child, order));
                put(into, "taught " + child + " " + order, () -> x.taught(child, order));
                put(into, "back " + child + " " + order, () -> x.back(child, order, NONE));
                put(into, "root " + child + " " + order, () -> x.root(child, order));
            }
        }
    }

    private static void notes(YardTalk x, List<String> into) {
        int many = x.count(3);
        for (int i = 0; i < many; i++) {
            int talk = i;
            if (i < 8 || i >= many - 8) {
                for (int j = 0; j < 17; j++) {
                    int what = j;
                    put(into, "note " + talk + " " + what, () -> x.note(talk, what));
                }
            }
        }
        put(into, "note beyond", () -> x.note(many, 0));
        for (int i = 0; i < 5; i++) {
            int kind = i - 1;
            put(into, "share " + kind, () -> x.share(x.count(0), kind, NONE, false));
            put(into, "share right " + kind, () -> x.share(x.count(0), NONE, kind, true));
        }
        for (int i = 0; i < 24; i++) {
            int child = i;
            put(into, "right " + child, () -> x.right(child, 0, 1499));
        }
    }

    private static void trials(YardTalk x, List<String> into) {
        for (int i = -1; i < x.count(4); i++) {
            int law = i;
            put(into, "trial " + law, () -> x.trial(0, 20, law, 0));
        }
        put(into, "fewest", () -> x.fewest(0, 10, 40, 0));
        put(into, "needed", () -> x.needed(0, 10, 0));
        put(into, "untaught", () -> x.untaught(0, 10, 0));
        put(into, "odds", () -> x.odds(0, 10, 0, 3));
    }

    private static void films(YardTalk x, List<String> into) {
        put(into, "read", () -> x.read());
        for (int i = 0; i < 3; i++) {
            int film = i;
            for (int j = -1; j < 6; j++) {
                int law = j;
                put(into, "fits " + film + " " + law, () -> x.fits(film, law));
            }
            for (int j = 0; j < 60; j++) {
                int talk = j;
                put(into, "gap " + film + " " + talk, () -> x.gap(film, talk));
            }
        }
        put(into, "film", () -> x.film());
        put(into, "end", () -> x.end());
        put(into, "film behind it", () -> x.film());
    }

    /** The bytes of the tape are shown by the law that they are. */
    private static void laws(YardTalk x, List<String> into) {
        put(into, "fault", () -> x.fault());
        put(into, "law of all the tape", () -> x.law(x.count(9)));
        put(into, "fault then", () -> x.fault());
        put(into, "tape then", () -> x.count(9));
        put(into, "force it", () -> x.force(x.count(4) - 1));
        put(into, "orders held by it", () -> x.of(0, 6));
        put(into, "feed", () -> x.feed(0, 0, 0, 0, 0));
    }

    private static void settings(YardTalk x, List<String> into) {
        put(into, "wear", () -> x.set(0, 11));
        put(into, "point", () -> x.set(1, 12));
        put(into, "law in force", () -> x.force(NONE));
        put(into, "years", () -> x.years(0));
        put(into, "year to come", () -> x.years(1));
        put(into, "feed", () -> x.feed(0, 0, 0, 0, 0));
    }

    private static void images(YardTalk x, List<String> into) {
        put(into, "image", () -> x.image());
        for (int i = 0; i < 5; i++) {
            put(into, "restore", () -> x.restore());
            for (int j = 0; j < 12; j++) {
                int what = j;
                put(into, "count of it " + what, () -> x.count(what));
            }
            for (int j = 0; j < 7; j++) {
                int what = j;
                put(into, "of its child " + what, () -> x.of(0, what));
            }
        }
    }

    private static void talksToCome(YardTalk x, List<String> into) {
        put(into, "talk", () -> x.talk(0, 1, 2, 1, 0));
        put(into, "run", () -> x.run(0, 4));
        int many = x.count(3);
        for (int i = Math.max(0, many - 5); i < many; i++) {
            int talk = i;
            for (int j = 0; j < 17; j++) {
                int what = j;
                put(into, "note then " + talk + " " + what, () -> x.note(talk, what));
            }
        }
        put(into, "chance then", () -> x.count(10));
        put(into, "choice then", () -> x.count(11));
        put(into, "talks of the film then", () -> x.count(7));
    }

    private static void childrenToCome(YardTalk x, List<String> into) {
        put(into, "come", () -> x.come(2, 20, false));
        put(into, "visit", () -> x.visit(0, 2));
        put(into, "leave", () -> x.leave(0));
        put(into, "there", () -> x.count(2));
        int last = x.count(1) - 1;
        for (int i = 0; i < 7; i++) {
            int what = i;
            put(into, "of the last " + what, () -> x.of(last, what));
        }
    }
}
