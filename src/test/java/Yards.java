/** Yards that several tests start from. */
final class Yards {
    private static final int NONE = YardTalk.NONE;

    private Yards() {
    }

    /** Of yard 0: "t" is a teacher, "y" a young one (5), "m" a middle one (8), "l" a late one (15). */
    static YardTalk with(String kinds) {
        YardTalk x = new YardTalk();
        for (int i = 0; i < kinds.length(); i++) {
            char kind = kinds.charAt(i);
            x.come(0, kind == 'y' ? 5 : kind == 'm' ? 8 : 15, kind == 't');
        }
        return x;
    }

    static void say(YardTalk x, int many, int says, int takes, int... meaning) {
        for (int i = 0; i < many; i++) {
            x.talk(says, takes, meaning[0], meaning[1], meaning[2]);
        }
    }

    /**
     * Six children of all kinds (3 has left, 4 is in yard 1), two laws, the second in force, two films of which one
     * is on, two images, 20 bytes on the tape, YEAR 3, a fault at place 5. Of film 0, talk 1 is a gap.
     */
    static YardTalk some() {
        YardTalk x = with("tymltl");
        x.visit(4, 1);
        x.set(0, 10);
        Check.law(x, "order 40;");
        Check.law(x, "must 80;lose 1 if shown=1;");
        x.force(0);
        x.image();
        x.years(3);
        x.force(1);
        x.film();
        x.run(0, 12);
        x.gap(0, 1);
        x.image();
        x.leave(3);
        x.film();
        x.run(0, 5);
        Check.law(x, "must x;");
        x.feed(0x6d757374, 0x20373b20, 0x20202020, 0x20202020, 0x20202020);
        return x;
    }

    /** All is full: 24 children (23 has left), 6 laws, 3 films, the last on, 4 images, the tape, the notes, the YEAR. */
    static YardTalk full() {
        YardTalk x = new YardTalk();
        for (int i = 0; i < 24; i++) {
            x.come(i / 8 == 1 ? 1 : 0, i % 21, i % 7 == 0);
        }
        x.years(60);
        for (int i = 0; i < 6; i++) {
            Check.law(x, i == 2 ? "order 30;" : "must 9;");
        }
        x.force(2);
        for (int i = 0; i < 4; i++) {
            x.image();
        }
        x.leave(23);
        for (int i = 0; i < 7; i++) {
            x.run(0, 200);
        }
        x.film();
        x.run(0, 30);
        x.end();
        x.film();
        x.run(0, 20);
        x.end();
        x.film();
        x.gap(0, 29);
        x.run(0, 200);
        for (int i = 0; i < 15; i++) {
            x.feed(0x6d757374, 0x20373b20, 0x20202020, 0x20202020, NONE);
        }
        return x;
    }
}
