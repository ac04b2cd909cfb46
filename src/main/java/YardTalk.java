import java.util.NoSuchElementException;

/** A language born in a yard: see the document for what each call promises. */
public final class YardTalk {
    public static final int NONE = -1;

    private static final int YARDS = 3;
    private static final int CHILDREN = 24;
    private static final int OLDEST = 20;
    private static final int PERSONS = 4;
    private static final int CONCEPTS = 8;
    private static final int SIGNS = 16;
    private static final int ORDERS = 6;
    private static final int PLACES = 3;
    private static final int MEANINGS = 64;
    private static final int LAST_YEAR = 60;
    private static final int HEAVIEST = 999;

    private static final int YOUNG = 0;
    private static final int MIDDLE = 1;
    private static final int LATE = 2;
    private static final int TEACHER = 3;

    private static final int LAWS = 6;
    private static final int CLAUSES = 12;
    private static final int TAPE = 300;
    private static final int FED = 20;
    private static final int TALKS = 1500;
    private static final int LONGEST_RUN = 200;
    private static final int FILMS = 3;
    private static final int FILM_TALKS = 100;
    private static final int IMAGES = 4;
    private static final int MOST_ODDS = 20;

    /** For each order, three places: 0 who, 1 what, 2 whom. */
    private static final int[] ROLES = {0, 1, 2, 0, 2, 1, 1, 0, 2, 1, 2, 0, 2, 0, 1, 2, 1, 0};
    private static final int WHAT = 1;

    private static final int LEARN = 0;
    private static final int ORDER = 1;
    private static final int LOSE = 2;
    private static final int MUST = 3;

    private final World now = new World();
    private final World copy = new World();
    private final World[] images = new World[IMAGES];
    private final Film[] films = new Film[FILMS];
    private final Law[] laws = new Law[LAWS];
    private final Notes notes = new Notes();
    private final Speech speech = new Speech();
    private final Ruling ruling = new Ruling();
    private final LawReader reader = new LawReader();
    private final int[] tape = new int[TAPE];
    private final int[] crowd = new int[CHILDREN];
    private final int[] tally = new int[CHILDREN];
    private int tapeBytes = 0;
    private int faultPlace = NONE;
    private int lawCount = 0;
    private int filmCount = 0;
    private int filmOn = NONE;
    private int imageCount = 0;

    public YardTalk() {
        for (int i = 0; i < IMAGES; i++) {
            images[i] = new World();
        }
        for (int i = 0; i < FILMS; i++) {
            films[i] = new Film();
        }
        for (int i = 0; i < LAWS; i++) {
            laws[i] = new Law();
        }
    }

    public void seeds(int choice, int chance) {
        now.choice = choice;
        now.chance = chance;
        stopFilm();
    }

    public int come(int yard, int age, boolean teacher) throws IllegalArgumentException {
        checkYard(yard);
        if (age < 0 || age > OLDEST) {
            throw new IllegalArgumentException("no such age");
        }
        if (now.children >= CHILDREN) {
            return -1;
        }
        stopFilm();
        return now.arrive(yard, age, teacher);
    }

    public int leave(int child) throws NoSuchElementException {
        checkChild(child);
        if (now.present[child] == 0) {
            return 0;
        }
        now.present[child] = 0;
        stopFilm();
        return 1;
    }

    public int visit(int child, int yard) throws NoSuchElementException, IllegalArgumentException {
        checkChild(child);
        checkYard(yard);
        if (now.present[child] == 0) {
            return -1;
        }
        int was = now.yard[child];
        now.yard[child] = yard;
        stopFilm();
        return was;
    }

    public int of(int child, int what) throws NoSuchElementException, IllegalArgumentException {
        checkChild(child);
        switch (what) {
            case 0:
                return now.yard[child];
            case 1:
                return now.ageNow(child);
            case 2:
                return now.kind[child];
            case 3:
                return now.present[child];
            case 4:
                return now.took[child];
            case 5:
                return now.said[child];
            case 6:
                return countOrdersHeld(child);
            default:
                throw new IllegalArgumentException("no such what");
        }
    }

    public int sign(int child, int concept, int sign) throws NoSuchElementException, IllegalArgumentException {
        checkChild(child);
        checkConcept(concept);
        checkSign(sign);
        return now.signs[signIndex(child, concept, sign)];
    }

    public int order(int child, int order) throws NoSuchElementException, IllegalArgumentException {
        checkChild(child);
        checkOrder(order);
        return now.orders[child * ORDERS + order];
    }

    public boolean holds(int child, int order) throws NoSuchElementException, IllegalArgumentException {
        checkChild(child);
        checkOrder(order);
        useLawInForce();
        return ruling.isHeld(now, child, order);
    }

    public int set(int what, int v) throws IllegalArgumentException {
        int was;
        if (what == 0 && v >= 10 && v <= 10000) {
            was = now.wear;
            now.wear = v;
        } else if (what == 1 && v >= 0 && v <= 100) {
            was = now.point;
            now.point = v;
        } else {
            throw new IllegalArgumentException("no such setting");
        }
        stopFilm();
        return was;
    }

    public int years(int many) throws IllegalArgumentException, IllegalStateException {
        if (many < 0 || many > LAST_YEAR) {
            throw new IllegalArgumentException("no such number of years");
        }
        if (now.year + many > LAST_YEAR) {
            throw new IllegalStateException("beyond the last year");
        }
        now.year += many;
        stopFilm();
        return now.year;
    }

    public int feed(int a, int b, int c, int d, int e) {
        if (tapeBytes + FED > TAPE) {
            return NONE;
        }
        putBytes(a);
        putBytes(b);
        putBytes(c);
        putBytes(d);
        putBytes(e);
        return tapeBytes;
    }

    public int law(int n) throws IllegalArgumentException {
        if (n < 0 || n > tapeBytes) {
            throw new IllegalArgumentException("the tape is shorter");
        }
        tapeBytes = 0;
        faultPlace = NONE;
        if (lawCount >= LAWS) {
            return -1;
        }
        int kind = reader.findFault(tape, n, laws[lawCount]);
        if (kind != 0) {
            faultPlace = reader.faultPlace;
            return kind - 10;
        }
        lawCount++;
        return lawCount - 1;
    }

    public int fault() {
        return faultPlace;
    }

    public int force(int law) throws IndexOutOfBoundsException {
        checkLaw(law);
        int was = now.lawInForce;
        now.lawInForce = law;
        stopFilm();
        return was;
    }

    public int talk(int says, int takes, int who, int what, int whom)
            throws NoSuchElementException, IllegalArgumentException {
        checkChild(says);
        checkChild(takes);
        if (says == takes || !isOfFour(who) || !isOfFour(what) || !isOfFour(whom)) {
            throw new IllegalArgumentException("one child alone, or no such meaning");
        }
        if (notes.many >= TALKS) {
            return -1;
        }
        if (!now.areTogether(says, takes)) {
            return -2;
        }
        speech.begin(says, takes, who, what, whom);
        useLawInForce();
        makeNotedTalk();
        return speech.isRight ? 1 : 0;
    }

    public int run(int yard, int many) throws IllegalArgumentException {
        checkYard(yard);
        checkRunLength(many);
        int there = now.gather(yard, crowd);
        if (there < 2) {
            return 0;
        }
        useLawInForce();
        int made = 0;
        while (made < many && notes.many < TALKS) {
            drawTalk(now, there);
            makeNotedTalk();
            made++;
        }
        return made;
    }

    public int note(int talk, int what) throws IndexOutOfBoundsException, IllegalArgumentException {
        if (talk < 0 || talk >= notes.many) {
            throw new IndexOutOfBoundsException("no such talk");
        }
        if (what < 0 || what >= Notes.ASKABLE) {
            throw new IllegalArgumentException("no such what");
        }
        return notes.at(talk, what);
    }

    public int share(int year, int says, int takes, boolean right) throws IllegalArgumentException {
        checkKind(says);
        checkKind(takes);
        int found = 0;
        for (int t = 0; t < notes.many; t++) {
            if (notes.at(t, Notes.YEAR) == year
                    && (says == NONE || notes.at(t, Notes.SAYS_KIND) == says)
                    && (takes == NONE || notes.at(t, Notes.TAKES_KIND) == takes)
                    && (!right || notes.at(t, Notes.RIGHT) == 1)) {
                found++;
            }
        }
        return found;
    }

    public int held(int yard, int order) throws IllegalArgumentException {
        checkYard(yard);
        checkOrder(order);
        useLawInForce();
        return countHolders(now, yard, order);
    }

    public int first(int order, int what) throws IllegalArgumentException {
        checkOrder(order);
        if (what == 0) {
            return notes.firstChild[order];
        }
        if (what == 1) {
            return notes.firstTalk[order];
        }
        throw new IllegalArgumentException("no such what");
    }

    public int back(int child, int order, int k) throws NoSuchElementException, IllegalArgumentException {
        checkChild(child);
        checkOrder(order);
        int found = 0;
        for (int t = 0; t < notes.many; t++) {
            if (notes.isLearnt(t, child, order)) {
                if (found == k) {
                    return t;
                }
                found++;
            }
        }
        return k == NONE ? found : NONE;
    }

    public int uses(int yard, int sign) throws IllegalArgumentException {
        checkYard(yard);
        checkSign(sign);
        return now.uses[yard * SIGNS + sign];
    }

    public int seen(int yard, int sign) throws IllegalArgumentException {
        checkYard(yard);
        checkSign(sign);
        return now.seenAs(yard, sign);
    }

    public int film() {
        if (filmCount >= FILMS) {
            return -1;
        }
        if (filmOn != NONE) {
            return -2;
        }
        films[filmCount].begin(now, notes.many);
        filmOn = filmCount;
        filmCount++;
        return filmOn;
    }

    public int end() {
        if (filmOn == NONE) {
            return -1;
        }
        int many = films[filmOn].many;
        stopFilm();
        return many;
    }

    public int gap(int film, int talk) throws IndexOutOfBoundsException, IllegalArgumentException {
        checkFilm(film);
        if (talk < 0 || talk >= films[film].many) {
            throw new IllegalArgumentException("no such talk of the film");
        }
        if (films[film].isGap[talk]) {
            return 0;
        }
        films[film].isGap[talk] = true;
        return 1;
    }

    public int fits(int film, int law) throws IndexOutOfBoundsException {
        checkFilm(film);
        checkLaw(law);
        return countAlike(films[film], law);
    }

    public int read() {
        int fitting = 0;
        for (int law = NONE; law < lawCount; law++) {
            boolean fitsAll = true;
            for (int i = 0; i < filmCount && fitsAll; i++) {
                fitsAll = countAlike(films[i], law) == films[i].many;
            }
            if (fitsAll) {
                fitting |= 1 << (law == NONE ? LAWS : law);
            }
        }
        return fitting;
    }

    public int trial(int yard, int talks, int law, int order)
            throws IndexOutOfBoundsException, IllegalArgumentException {
        checkLaw(law);
        checkTrial(yard, talks, order);
        copy.become(now);
        ruling.use(lawOf(law), NONE);
        return tryOut(yard, talks, order);
    }

    public int fewest(int yard, int talks, int hundredths, int order) throws IllegalArgumentException {
        checkTrial(yard, talks, order);
        if (hundredths < 1 || hundredths > 100) {
            throw new IllegalArgumentException("no such hundredths");
        }
        useLawInForce();
        int there = now.gather(yard, crowd);
        for (int m = 2; m <= there; m++) {
            copy.become(now);
            copy.keepFirst(yard, m);
            if (tryOut(yard, talks, order) * 100 >= m * hundredths) {
                return m;
            }
        }
        return NONE;
    }

    public int needed(int yard, int talks, int order) throws IllegalArgumentException {
        checkTrial(yard, talks, order);
        Law law = lawOf(now.lawInForce);
        if (law == null) {
            return 0;
        }
        copy.become(now);
        ruling.use(law, NONE);
        int withAll = tryOut(yard, talks, order);
        int bits = 0;
        for (int clause = 0; clause < law.clauses; clause++) {
            copy.become(now);
            ruling.use(law, clause);
            if (tryOut(yard, talks, order) < withAll) {
                bits |= 1 << clause;
            }
        }
        return bits;
    }

    public int unlike(int yard, int other) throws IllegalArgumentException {
        checkYard(yard);
        checkYard(other);
        if (now.countThere(yard) == 0 || now.countThere(other) == 0) {
            return NONE;
        }
        return countUnlike(yard, other);
    }

    public int meets(int says, int takes) throws NoSuchElementException, IllegalArgumentException {
        checkChild(says);
        checkChild(takes);
        if (says == takes) {
            throw new IllegalArgumentException("one child alone");
        }
        if (!now.areTogether(says, takes)) {
            return NONE;
        }
        copy.become(now);
        int met = 0;
        for (int meaning = 0; meaning < MEANINGS; meaning++) {
            copy.takeBackSaying(now);
            speech.begin(says, takes, meaning / 16, meaning / 4 % 4, meaning % 4);
            speech.sayIn(copy);
            speech.takeIn(copy);
            if (speech.isRight) {
                met++;
            }
        }
        return met;
    }

    public int image() {
        if (imageCount >= IMAGES) {
            return -1;
        }
        images[imageCount].become(now);
        imageCount++;
        return imageCount;
    }

    public int restore() {
        if (imageCount <= 0) {
            return -1;
        }
        imageCount--;
        now.become(images[imageCount]);
        stopFilm();
        return imageCount;
    }

    public int plain(int child) throws NoSuchElementException {
        checkChild(child);
        if (now.heaviestOrder(child) == NONE) {
            return 0;
        }
        int persons = countSeenAlone(child, 0);
        int acts = countSeenAlone(child, PERSONS);
        return persons * acts * persons;
    }

    public int word(int yard, int concept) throws IllegalArgumentException {
        checkYard(yard);
        checkConcept(concept);
        return now.countThere(yard) == 0 ? NONE : now.signOfYard(yard, concept);
    }

    public int blurred(int yard, int k) throws IllegalArgumentException {
        checkYard(yard);
        if (now.countThere(yard) == 0) {
            return NONE;
        }
        int found = 0;
        for (int one = 0; one < CONCEPTS; one++) {
            int behindGroup = one < PERSONS ? PERSONS : CONCEPTS;
            for (int other = one + 1; other < behindGroup; other++) {
                if (areBlurred(yard, one, other)) {
                    if (found == k) {
                        return 8 * one + other;
                    }
                    found++;
                }
            }
        }
        return k == NONE ? found : NONE;
    }

    public int nearest(int yard) throws IllegalArgumentException {
        checkYard(yard);
        if (now.countThere(yard) == 0) {
            return NONE;
        }
        int best = NONE;
        int least = CONCEPTS + 2;
        for (int other = 0; other < YARDS; other++) {
            if (other != yard && now.countThere(other) > 0) {
                int far = countUnlike(yard, other);
                if (far < least) {
                    least = far;
                    best = other;
                }
            }
        }
        return best;
    }

    public int since(int child, int order) throws NoSuchElementException, IllegalArgumentException {
        checkChild(child);
        checkOrder(order);
        return notes.heldSince[child * ORDERS + order];
    }

    public int taught(int child, int order) throws NoSuchElementException, IllegalArgumentException {
        checkChild(child);
        checkOrder(order);
        return findTeacher(child, order);
    }

    public int root(int child, int order) throws NoSuchElementException, IllegalArgumentException {
        checkChild(child);
        checkOrder(order);
        int came = 1 << child;
        int last = child;
        for (int step = 0; step < CHILDREN; step++) {
            int next = findTeacher(last, order);
            if (next == NONE || (came >> next & 1) == 1) {
                break;
            }
            came |= 1 << next;
            last = next;
        }
        return last;
    }

    public int untaught(int yard, int talks, int order) throws IllegalArgumentException {
        checkTrial(yard, talks, order);
        copy.become(now);
        copy.sendTeachersAway(yard);
        useLawInForce();
        return tryOut(yard, talks, order);
    }

    public int odds(int yard, int talks, int order, int many) throws IllegalArgumentException {
        checkTrial(yard, talks, order);
        if (many < 1 || many > MOST_ODDS) {
            throw new IllegalArgumentException("no such number of trials");
        }
        useLawInForce();
        int there = now.countThere(yard);
        int found = 0;
        for (int seed = 1; seed <= many; seed++) {
            copy.become(now);
            copy.choice = seed;
            copy.chance = seed;
            if (tryOut(yard, talks, order) * 2 >= there) {
                found++;
            }
        }
        return found;
    }

    public int right(int child, int from, int to) throws NoSuchElementException, IllegalArgumentException {
        checkChild(child);
        if (from > to) {
            throw new IllegalArgumentException("from is above to");
        }
        int own = 0;
        int found = 0;
        for (int t = Math.max(from, 0); t < notes.many && t <= to; t++) {
            if (notes.at(t, Notes.SAYS) == child || notes.at(t, Notes.TAKES) == child) {
                own++;
                found += notes.at(t, Notes.RIGHT);
            }
        }
        return own == 0 ? NONE : found;
    }

    public int count(int what) {
        switch (what) {
            case 0:
                return now.year;
            case 1:
                return now.children;
            case 2:
                return now.countThere(0) + now.countThere(1) + now.countThere(2);
            case 3:
                return notes.many;
            case 4:
                return lawCount;
            case 5:
                return now.lawInForce;
            case 6:
                return filmCount;
            case 7:
                return filmOn == NONE ? NONE : films[filmOn].many;
            case 8:
                return imageCount;
            case 9:
                return tapeBytes;
            case 10:
                return now.chance;
            case 11:
                return now.choice;
            default:
                return NONE;
        }
    }

    private void checkChild(int child) {
        if (child < 0 || child >= now.children) {
            throw new NoSuchElementException("no such child");
        }
    }

    private void checkLaw(int law) {
        if (law < NONE || law >= lawCount) {
            throw new IndexOutOfBoundsException("no such law");
        }
    }

    private void checkFilm(int film) {
        if (film < 0 || film >= filmCount) {
            throw new IndexOutOfBoundsException("no such film");
        }
    }

    private static void checkYard(int yard) {
        if (yard < 0 || yard >= YARDS) {
            throw new IllegalArgumentException("no such yard");
        }
    }

    private static void checkConcept(int concept) {
        if (concept < 0 || concept >= CONCEPTS) {
            throw new IllegalArgumentException("no such concept");
        }
    }

    private static void checkSign(int sign) {
        if (sign < 0 || sign >= SIGNS) {
            throw new IllegalArgumentException("no such sign");
        }
    }

    private static void checkOrder(int order) {
        if (order < 0 || order >= ORDERS) {
            throw new IllegalArgumentException("no such order");
        }
    }

    private static void checkKind(int kind) {
        if (kind < NONE || kind > TEACHER) {
            throw new IllegalArgumentException("no such kind");
        }
    }

    private static void checkRunLength(int talks) {
        if (talks < 0 || talks > LONGEST_RUN) {
            throw new IllegalArgumentException("no such number of talks");
        }
    }

    private static void checkTrial(int yard, int talks, int order) {
        checkYard(yard);
        checkRunLength(talks);
        checkOrder(order);
    }

    private static boolean isOfFour(int part) {
        return part >= 0 && part < 4;
    }

    private static int signIndex(int child, int concept, int sign) {
        return (child * CONCEPTS + concept) * SIGNS + sign;
    }

    private static int roleAt(int order, int place) {
        return ROLES[order * PLACES + place];
    }

    private static int conceptOf(int role, int part) {
        return role == WHAT ? PERSONS + part : part;
    }

    /** A weight stays 0 to 999 at each step. */
    private static int keepInBounds(int weight) {
        return Math.max(0, Math.min(HEAVIEST, weight));
    }

    private void putBytes(int number) {
        for (int shift = 24; shift >= 0; shift -= 8) {
            tape[tapeBytes] = number >>> shift & 255;
            tapeBytes++;
        }
    }

    private void stopFilm() {
        filmOn = NONE;
    }

    private Law lawOf(int law) {
        return law < 0 || law >= lawCount ? null : laws[law];
    }

    private void useLawInForce() {
        ruling.use(lawOf(now.lawInForce), NONE);
    }

    private int countOrdersHeld(int child) {
        useLawInForce();
        int found = 0;
        for (int order = 0; order < ORDERS; order++) {
            if (ruling.isHeld(now, child, order)) {
                found++;
            }
        }
        return found;
    }

    private int countHolders(World world, int yard, int order) {
        int found = 0;
        for (int child = 0; child < world.children; child++) {
            if (world.isThere(child, yard) && ruling.isHeld(world, child, order)) {
                found++;
            }
        }
        return found;
    }

    /** Draws who says, who takes and the meaning, of those in the crowd (two at least). */
    private void drawTalk(World world, int there) {
        int says = world.drawChoice(there);
        int takes = world.drawChoice(there - 1);
        if (takes >= says) {
            takes++;
        }
        int who = world.drawChoice(4);
        int what = world.drawChoice(4);
        int whom = world.drawChoice(4);
        speech.begin(crowd[says], crowd[takes], who, what, whom);
    }

    private void makeNotedTalk() {
        speech.makeIn(now, ruling);
        notes.write(now, speech);
        // The talk is over: who holds an order is asked as outside of it.
        notes.askWhatIsHeld(now, ruling, speech.takes);
        notes.askWhatIsHeld(now, ruling, speech.says);
        if (filmOn != NONE) {
            films[filmOn].many++;
            if (films[filmOn].many >= FILM_TALKS) {
                stopFilm();
            }
        }
    }

    /** A run on the copy, with the ruling as it is set: how many hold the order behind it. */
    private int tryOut(int yard, int talks, int order) {
        int there = copy.gather(yard, crowd);
        if (there >= 2) {
            for (int i = 0; i < talks; i++) {
                drawTalk(copy, there);
                speech.makeIn(copy, ruling);
            }
        }
        return countHolders(copy, yard, order);
    }

    private int countAlike(Film film, int law) {
        copy.become(film.image);
        ruling.use(lawOf(law), NONE);
        for (int i = 0; i < film.many; i++) {
            int t = film.from + i;
            speech.begin(notes.at(t, Notes.SAYS), notes.at(t, Notes.TAKES), notes.at(t, Notes.WHO),
                    notes.at(t, Notes.WHO + 1), notes.at(t, Notes.WHO + 2));
            speech.makeIn(copy, ruling);
            if (!film.isGap[i] && !notes.hasSigns(t, speech)) {
                return i;
            }
        }
        return film.many;
    }

    private int countUnlike(int yard, int other) {
        int far = now.orderOfYard(yard) == now.orderOfYard(other) ? 0 : 1;
        for (int concept = 0; concept < CONCEPTS; concept++) {
            if (now.signOfYard(yard, concept) != now.signOfYard(other, concept)) {
                far++;
            }
        }
        return far;
    }

    private boolean areBlurred(int yard, int one, int other) {
        int sign = now.signOfYard(yard, one);
        int otherSign = now.signOfYard(yard, other);
        return sign != otherSign && now.seenAs(yard, sign) == now.seenAs(yard, otherSign);
    }

    /**
     * Of the four concepts from one on, how many a child's sign is seen for that is seen for no other.
     * All meanings are said in one order, so one is plain if it is alone at each of its places.
     */
    private int countSeenAlone(int child, int from) {
        int alone = 0;
        for (int one = from; one < from + PERSONS; one++) {
            int alike = 0;
            for (int other = from; other < from + PERSONS; other++) {
                if (now.seenFor(child, one) == now.seenFor(child, other)) {
                    alike++;
                }
            }
            if (alike == 1) {
                alone++;
            }
        }
        return alone;
    }

    private int findTeacher(int child, int order) {
        for (int i = 0; i < CHILDREN; i++) {
            tally[i] = 0;
        }
        for (int t = 0; t < notes.many; t++) {
            if (notes.isLearnt(t, child, order)) {
                tally[notes.at(t, Notes.SAYS)]++;
            }
        }
        int best = NONE;
        int most = 0;
        for (int i = 0; i < CHILDREN; i++) {
            if (tally[i] > most) {
                most = tally[i];
                best = i;
            }
        }
        return best;
    }

    /** All that an image keeps. */
    private static final class World {
        int choice = 1;
        int chance = 1;
        int year = 0;
        int wear = 1000;
        int point = 50;
        int lawInForce = NONE;
        int children = 0;
        final int[] yard = new int[CHILDREN];
        final int[] age = new int[CHILDREN];
        final int[] yearCame = new int[CHILDREN];
        final int[] kind = new int[CHILDREN];
        final int[] present = new int[CHILDREN];
        final int[] took = new int[CHILDREN];
        final int[] said = new int[CHILDREN];
        final int[] signs = new int[CHILDREN * CONCEPTS * SIGNS];
        final int[] orders = new int[CHILDREN * ORDERS];
        final int[] uses = new int[YARDS * SIGNS];

        void become(World other) {
            choice = other.choice;
            chance = other.chance;
            year = other.year;
            wear = other.wear;
            point = other.point;
            lawInForce = other.lawInForce;
            children = other.children;
            System.arraycopy(other.yard, 0, yard, 0, CHILDREN);
            System.arraycopy(other.age, 0, age, 0, CHILDREN);
            System.arraycopy(other.yearCame, 0, yearCame, 0, CHILDREN);
            System.arraycopy(other.kind, 0, kind, 0, CHILDREN);
            System.arraycopy(other.present, 0, present, 0, CHILDREN);
            System.arraycopy(other.took, 0, took, 0, CHILDREN);
            System.arraycopy(other.said, 0, said, 0, CHILDREN);
            System.arraycopy(other.signs, 0, signs, 0, CHILDREN * CONCEPTS * SIGNS);
            System.arraycopy(other.orders, 0, orders, 0, CHILDREN * ORDERS);
            System.arraycopy(other.uses, 0, uses, 0, YARDS * SIGNS);
        }

        /** A saying and how it is taken change these alone. */
        void takeBackSaying(World before) {
            chance = before.chance;
            System.arraycopy(before.uses, 0, uses, 0, YARDS * SIGNS);
        }

        private static int advance(int seed) {
            return seed * 1103515245 + 12345;
        }

        private static int pick(int seed, int n) {
            return n <= 0 ? 0 : (seed >>> 16 & 32767) % n;
        }

        int drawChoice(int n) {
            choice = advance(choice);
            return pick(choice, n);
        }

        int drawChance(int n) {
            chance = advance(chance);
            return pick(chance, n);
        }

        int arrive(int toYard, int atAge, boolean teacher) {
            int child = children;
            if (child < 0 || child >= CHILDREN) {
                return NONE;
            }
            children++;
            yard[child] = toYard;
            age[child] = atAge;
            yearCame[child] = year;
            present[child] = 1;
            if (teacher) {
                kind[child] = TEACHER;
            } else if (atAge < 7) {
                kind[child] = YOUNG;
            } else {
                kind[child] = atAge >= 12 ? LATE : MIDDLE;
            }
            giveFirstWeights(child);
            return child;
        }

        /** All others are 0 already: an image goes back on the rows of children that had not come, too. */
        private void giveFirstWeights(int child) {
            for (int concept = 0; concept < CONCEPTS; concept++) {
                if (kind[child] == TEACHER) {
                    signs[signIndex(child, concept, concept)] = 500;
                } else {
                    signs[signIndex(child, concept, (5 * child + 3 * concept) % SIGNS)] = 10;
                }
            }
            if (kind[child] == TEACHER) {
                orders[child * ORDERS] = 500;
            }
        }

        int yearsHere(int child) {
            return year - yearCame[child];
        }

        int ageNow(int child) {
            return age[child] + yearsHere(child);
        }

        boolean isThere(int child, int inYard) {
            return present[child] == 1 && yard[child] == inYard;
        }

        boolean areTogether(int one, int other) {
            return present[one] == 1 && present[other] == 1 && yard[one] == yard[other];
        }

        /** Those there in a yard, by number, are put in a row: how many. */
        int gather(int inYard, int[] row) {
            int many = 0;
            for (int child = 0; child < children && many < row.length; child++) {
                if (isThere(child, inYard)) {
                    row[many] = child;
                    many++;
                }
            }
            return many;
        }

        int countThere(int inYard) {
            int many = 0;
            for (int child = 0; child < children; child++) {
                if (isThere(child, inYard)) {
                    many++;
                }
            }
            return many;
        }

        void keepFirst(int inYard, int many) {
            int kept = 0;
            for (int child = 0; child < children; child++) {
                if (isThere(child, inYard) && kept < many) {
                    kept++;
                } else {
                    present[child] = 0;
                }
            }
        }

        void sendTeachersAway(int inYard) {
            for (int child = 0; child < children; child++) {
                if (isThere(child, inYard) && kind[child] == TEACHER) {
                    present[child] = 0;
                }
            }
        }

        /** The sign of greatest weight, of these the least; NONE if that weight is 0. */
        int heaviestSign(int child, int concept) {
            int best = NONE;
            int most = 0;
            for (int sign = 0; sign < SIGNS; sign++) {
                int weight = signs[signIndex(child, concept, sign)];
                if (weight > most) {
                    most = weight;
                    best = sign;
                }
            }
            return best;
        }

        int heaviestOrder(int child) {
            int best = NONE;
            int most = 0;
            for (int order = 0; order < ORDERS; order++) {
                int weight = orders[child * ORDERS + order];
                if (weight > most) {
                    most = weight;
                    best = order;
                }
            }
            return best;
        }

        int chooseSign(int child, int concept) {
            int sign = heaviestSign(child, concept);
            return sign == NONE ? drawChance(SIGNS) : sign;
        }

        int chooseOrder(int child) {
            int order = heaviestOrder(child);
            return order == NONE ? drawChance(ORDERS) : order;
        }

        private boolean areBothWorn(int inYard, int sign) {
            int couple = inYard * SIGNS + sign / 2 * 2;
            return uses[couple] >= wear && uses[couple + 1] >= wear;
        }

        int seenAs(int inYard, int sign) {
            return areBothWorn(inYard, sign) ? sign / 2 * 2 : sign;
        }

        /** What a child's sign for a concept is seen as in its yard; NONE if it has none of weight. */
        int seenFor(int child, int concept) {
            int sign = heaviestSign(child, concept);
            return sign == NONE ? NONE : seenAs(yard[child], sign);
        }

        int weightSeen(int child, int concept, int sign) {
            if (areBothWorn(yard[child], sign)) {
                int couple = signIndex(child, concept, sign / 2 * 2);
                return signs[couple] + signs[couple + 1];
            }
            return signs[signIndex(child, concept, sign)];
        }

        void addToSign(int child, int concept, int sign, int more) {
            int i = signIndex(child, concept, sign);
            signs[i] = keepInBounds(signs[i] + more);
        }

        void addToOrder(int child, int order, int more) {
            int i = child * ORDERS + order;
            orders[i] = keepInBounds(orders[i] + more);
        }

        int signOfYard(int inYard, int concept) {
            int best = 0;
            int most = 0;
            for (int sign = 0; sign < SIGNS; sign++) {
                int sum = 0;
                for (int child = 0; child < children; child++) {
                    if (isThere(child, inYard)) {
                        sum += signs[signIndex(child, concept, sign)];
                    }
                }
                if (sum > most) {
                    most = sum;
                    best = sign;
                }
            }
            return best;
        }

        int orderOfYard(int inYard) {
            int best = 0;
            int most = 0;
            for (int order = 0; order < ORDERS; order++) {
                int sum = 0;
                for (int child = 0; child < children; child++) {
                    if (isThere(child, inYard)) {
                        sum += orders[child * ORDERS + order];
                    }
                }
                if (sum > most) {
                    most = sum;
                    best = order;
                }
            }
            return best;
        }
    }

    /** One talk as it is made; the same object serves all talks. */
    private static final class Speech {
        int says = 0;
        int takes = 0;
        final int[] meant = new int[PLACES];
        int orderSaid = 0;
        final int[] signs = new int[PLACES];
        int orderTaken = 0;
        final int[] taken = new int[PLACES];
        boolean isRight = false;
        boolean isShown = false;
        int orderLearnt = NONE;

        void begin(int saysIt, int takesIt, int who, int what, int whom) {
            says = saysIt;
            takes = takesIt;
            meant[0] = who;
            meant[1] = what;
            meant[2] = whom;
        }

        void makeIn(World world, Ruling ruling) {
            sayIn(world);
            takeIn(world);
            isShown = world.drawChance(100) < world.point;
            learnIn(world, ruling);
            if (isRight) {
                strengthenIn(world);
            }
            world.took[takes]++;
            world.said[says]++;
        }

        void sayIn(World world) {
            orderSaid = world.chooseOrder(says);
            for (int place = 0; place < PLACES; place++) {
                signs[place] = world.chooseSign(says, conceptMeant(place));
            }
            for (int place = 0; place < PLACES; place++) {
                world.uses[world.yard[says] * SIGNS + signs[place]]++;
            }
        }

        private int conceptMeant(int place) {
            int role = roleAt(orderSaid, place);
            return conceptOf(role, meant[role]);
        }

        void takeIn(World world) {
            orderTaken = world.chooseOrder(takes);
            isRight = true;
            for (int place = 0; place < PLACES; place++) {
                int role = roleAt(orderTaken, place);
                taken[role] = guessPart(world, role, signs[place]);
                if (taken[role] != meant[role]) {
                    isRight = false;
                }
            }
        }

        private int guessPart(World world, int role, int sign) {
            int best = 0;
            int most = 0;
            for (int part = 0; part < PERSONS; part++) {
                int weight = world.weightSeen(takes, conceptOf(role, part), sign);
                if (weight > most) {
                    most = weight;
                    best = part;
                }
            }
            return best;
        }

        private void learnIn(World world, Ruling ruling) {
            orderLearnt = NONE;
            if (world.kind[takes] == TEACHER) {
                return;
            }
            ruling.ofChild(world, takes);
            ruling.ofTalk(isRight, isShown);
            int order = isShown ? orderSaid : orderTaken;
            for (int place = 0; place < PLACES; place++) {
                int role = roleAt(order, place);
                int concept = conceptOf(role, isShown ? meant[role] : taken[role]);
                learnSign(world, ruling, concept, world.seenAs(world.yard[takes], signs[place]));
            }
            if (world.kind[takes] != LATE) {
                orderLearnt = order;
                learnOrder(world, ruling);
            }
        }

        private void learnSign(World world, Ruling ruling, int concept, int seen) {
            for (int sign = 0; sign < SIGNS; sign++) {
                int weight = world.signs[signIndex(takes, concept, sign)];
                if (sign == seen) {
                    world.addToSign(takes, concept, sign, ruling.valueOf(LEARN, weight));
                } else if (weight > 0) {
                    world.addToSign(takes, concept, sign, -ruling.valueOf(LOSE, weight));
                }
            }
        }

        private void learnOrder(World world, Ruling ruling) {
            int own = takes * ORDERS + orderLearnt;
            int others = 0;
            for (int order = 0; order < ORDERS; order++) {
                int weight = world.orders[takes * ORDERS + order];
                if (order == orderLearnt) {
                    world.addToOrder(takes, order, ruling.valueOf(ORDER, weight));
                } else if (weight > 0) {
                    world.addToOrder(takes, order, -ruling.valueOf(LOSE, weight));
                    others += world.orders[takes * ORDERS + order];
                }
            }
            if (world.kind[takes] == YOUNG && world.orders[own] > others
                    && world.orders[own] >= ruling.valueOf(MUST, world.orders[own])) {
                for (int order = 0; order < ORDERS; order++) {
                    world.orders[takes * ORDERS + order] = order == orderLearnt ? HEAVIEST : 0;
                }
            }
        }

        private void strengthenIn(World world) {
            if (world.kind[says] == TEACHER) {
                return;
            }
            for (int place = 0; place < PLACES; place++) {
                world.addToSign(says, conceptMeant(place), signs[place], 1);
            }
            if (world.kind[says] != LATE) {
                world.addToOrder(says, orderSaid, 1);
            }
        }
    }

    /** What was talked, and who held an order first behind it; no image goes back on these. */
    private static final class Notes {
        static final int YEAR = 0;
        static final int SAYS = 1;
        static final int TAKES = 2;
        static final int WHO = 3;
        static final int ORDER_SAID = 6;
        static final int SIGN = 7;
        static final int ORDER_TAKEN = 10;
        static final int WHO_TAKEN = 11;
        static final int RIGHT = 14;
        static final int SHOWN = 15;
        static final int LEARNT = 16;
        static final int ASKABLE = 17;
        static final int SAYS_KIND = 17;
        static final int TAKES_KIND = 18;
        private static final int COLUMNS = 19;

        int many = 0;
        private final int[] rows = new int[TALKS * COLUMNS];
        final int[] firstChild = {NONE, NONE, NONE, NONE, NONE, NONE};
        final int[] firstTalk = {NONE, NONE, NONE, NONE, NONE, NONE};
        final int[] heldSince = new int[CHILDREN * ORDERS];

        Notes() {
            for (int i = 0; i < CHILDREN * ORDERS; i++) {
                heldSince[i] = NONE;
            }
        }

        int at(int talk, int column) {
            return rows[talk * COLUMNS + column];
        }

        void write(World world, Speech speech) {
            if (many >= TALKS) {
                return;
            }
            int row = many * COLUMNS;
            rows[row + YEAR] = world.year;
            rows[row + SAYS] = speech.says;
            rows[row + TAKES] = speech.takes;
            rows[row + ORDER_SAID] = speech.orderSaid;
            rows[row + ORDER_TAKEN] = speech.orderTaken;
            for (int i = 0; i < PLACES; i++) {
                rows[row + WHO + i] = speech.meant[i];
                rows[row + SIGN + i] = speech.signs[i];
                rows[row + WHO_TAKEN + i] = speech.taken[i];
            }
            rows[row + RIGHT] = speech.isRight ? 1 : 0;
            rows[row + SHOWN] = speech.isShown ? 1 : 0;
            rows[row + LEARNT] = speech.orderLearnt;
            rows[row + SAYS_KIND] = world.kind[speech.says];
            rows[row + TAKES_KIND] = world.kind[speech.takes];
            many++;
        }

        boolean hasSigns(int talk, Speech speech) {
            for (int place = 0; place < PLACES; place++) {
                if (at(talk, SIGN + place) != speech.signs[place]) {
                    return false;
                }
            }
            return true;
        }

        boolean isLearnt(int talk, int child, int order) {
            return at(talk, TAKES) == child && at(talk, LEARNT) == order;
        }

        /** Behind the latest talk: which orders a child of it holds that it never held before. */
        void askWhatIsHeld(World world, Ruling ruling, int child) {
            for (int order = 0; order < ORDERS; order++) {
                int i = child * ORDERS + order;
                if (heldSince[i] == NONE && ruling.isHeld(world, child, order)) {
                    heldSince[i] = many - 1;
                    if (firstTalk[order] == NONE) {
                        firstTalk[order] = many - 1;
                        firstChild[order] = child;
                    }
                }
            }
        }
    }

    /** An image, and the talks noted from then on. */
    private static final class Film {
        final World image = new World();
        final boolean[] isGap = new boolean[FILM_TALKS];
        int from = 0;
        int many = 0;

        void begin(World world, int talk) {
            image.become(world);
            from = talk;
            many = 0;
        }
    }

    /** A law that is asked (or none), perhaps with a clause left out, and of whom and what it is asked. */
    private static final class Ruling {
        private static final int[] WITHOUT = {10, 10, 2, 100};

        private final int[] facts = new int[Law.FACTS];
        private final int[] stack = new int[TAPE];
        private Law law = null;
        private int leftOut = NONE;

        void use(Law lawAsked, int clauseLeftOut) {
            law = lawAsked;
            leftOut = clauseLeftOut;
        }

        void ofChild(World world, int child) {
            // Every fact is as it is when the law is asked, so this is AGE now, not that at which it came.
            facts[Law.AGE] = world.ageNow(child);
            facts[Law.THERE] = world.yearsHere(child);
            facts[Law.TALKS_TAKEN] = world.took[child];
        }

        void ofTalk(boolean isRight, boolean isShown) {
            facts[Law.RIGHT] = isRight ? 1 : 0;
            facts[Law.SHOWN] = isShown ? 1 : 0;
        }

        /** Outside of any talk. */
        boolean isHeld(World world, int child, int order) {
            ofChild(world, child);
            ofTalk(false, false);
            int weight = world.orders[child * ORDERS + order];
            return weight >= valueOf(MUST, weight);
        }

        int valueOf(int word, int weight) {
            facts[Law.WEIGHT] = weight;
            if (law != null) {
                for (int clause = law.clauses - 1; clause >= 0; clause--) {
                    int middle = law.middles[clause];
                    int end = law.ends[clause];
                    if (law.words[clause] == word && clause != leftOut
                            && (middle == end || law.work(middle, end, facts, stack) != 0)) {
                        return keepInBounds(law.work(law.starts[clause], middle, facts, stack));
                    }
                }
            }
            return WITHOUT[word];
        }
    }

    /** A law's clauses, worked on a stack: a code below 1,000 puts that number, others put a fact or do an act. */
    private static final class Law {
        static final int AGE = 0;
        static final int THERE = 1;
        static final int RIGHT = 2;
        static final int SHOWN = 3;
        static final int WEIGHT = 4;
        static final int TALKS_TAKEN = 5;
        static final int FACTS = 6;

        static final int FACT = 1000;
        static final int ACT = 2000;
        static final int PLUS = 2000;
        static final int MINUS = 2001;
        static final int TIMES = 2002;
        static final int BY = 2003;
        static final int LEAST = 2004;
        static final int MOST = 2005;
        static final int BELOW = 2006;
        static final int ABOVE = 2007;
        static final int SAME = 2008;
        static final int AND = 2009;
        static final int OR = 2010;
        static final int NOT = 2011;

        int clauses = 0;
        final int[] words = new int[CLAUSES];
        /** A clause's value stands from its start to its middle, its condition from there to its end. */
        final int[] starts = new int[CLAUSES];
        final int[] middles = new int[CLAUSES];
        final int[] ends = new int[CLAUSES];
        private final int[] codes = new int[TAPE];
        private int length = 0;

        void clear() {
            clauses = 0;
            length = 0;
        }

        void beginClause(int word) {
            if (clauses < CLAUSES) {
                words[clauses] = word;
                starts[clauses] = length;
            }
        }

        void closeValue() {
            if (clauses < CLAUSES) {
                middles[clauses] = length;
            }
        }

        void closeClause() {
            if (clauses < CLAUSES) {
                ends[clauses] = length;
                clauses++;
            }
        }

        void put(int code) {
            if (length < TAPE) {
                codes[length] = code;
                length++;
            }
        }

        /** What the codes from one place to another leave on the stack. */
        int work(int from, int to, int[] facts, int[] stack) {
            int top = 0;
            for (int i = from; i < to; i++) {
                int code = codes[i];
                if (code < ACT) {
                    if (top < stack.length) {
                        stack[top] = code < FACT ? code : facts[code - FACT];
                        top++;
                    }
                } else if (code == NOT) {
                    if (top >= 1) {
                        stack[top - 1] = 1 - stack[top - 1];
                    }
                } else if (top >= 2) {
                    top--;
                    stack[top - 1] = act(code, stack[top - 1], stack[top]);
                }
            }
            return top > 0 ? stack[0] : 0;
        }

        private static int act(int code, int a, int b) {
            switch (code) {
                case PLUS:
                    return a + b;
                case MINUS:
                    return a - b;
                case TIMES:
                    return a * b;
                case BY:
                    return b == 0 ? 0 : a / b;
                case LEAST:
                    return a < b ? a : b;
                case MOST:
                    return a > b ? a : b;
                case BELOW:
                    return a < b ? 1 : 0;
                case ABOVE:
                    return a > b ? 1 : 0;
                case SAME:
                    return a == b ? 1 : 0;
                case AND:
                    return a & b;
                default:
                    return a | b;
            }
        }
    }

    /** Reads a law's text from the left, one token ahead, and stops at its first fault. */
    private static final class LawReader {
        private static final int CANNOT_STAND = 1;
        private static final int TOO_GREAT = 2;
        private static final int TOO_MANY = 3;
        private static final int MOST_OPEN = 6;
        private static final int GREATEST = 999;

        private static final int AT_END = 0;
        private static final int DIGITS = 1;
        private static final int LETTERS = 2;
        private static final int OTHER = 3;

        private int[] text = null;
        private int length = 0;
        private Law law = null;
        private int token = AT_END;
        private int start = 0;
        private int end = 0;
        private int number = 0;
        private int faultKind = 0;
        int faultPlace = NONE;

        /** The kind of the first fault, 0 if there is none; the law is written as far as it was read. */
        int findFault(int[] bytes, int many, Law into) {
            text = bytes;
            length = Math.min(many, bytes.length);
            law = into;
            law.clear();
            end = 0;
            faultKind = 0;
            faultPlace = NONE;
            step();
            for (int clause = 0; clause <= CLAUSES && token != AT_END; clause++) {
                if (!readClause(clause)) {
                    break;
                }
            }
            return faultKind;
        }

        private boolean refuse(int kind) {
            faultKind = kind;
            faultPlace = start;
            return false;
        }

        private void step() {
            start = end;
            while (start < length && text[start] == ' ') {
                start++;
            }
            end = start;
            if (start >= length) {
                token = AT_END;
            } else if (isDigit(text[start])) {
                token = DIGITS;
                number = 0;
                while (end < length && isDigit(text[end])) {
                    // Beyond the greatest number the value is no longer built up, so that it cannot wrap.
                    if (number <= GREATEST) {
                        number = number * 10 + text[end] - '0';
                    }
                    end++;
                }
            } else if (isLetter(text[start])) {
                token = LETTERS;
                while (end < length && isLetter(text[end])) {
                    end++;
                }
            } else {
                token = OTHER;
                end++;
            }
        }

        private static boolean isDigit(int sign) {
            return sign >= '0' && sign <= '9';
        }

        private static boolean isLetter(int sign) {
            return sign >= 'a' && sign <= 'z';
        }

        private boolean isAt(char sign) {
            return token == OTHER && text[start] == sign;
        }

        private boolean isAt(String name) {
            if (token != LETTERS || end - start != name.length()) {
                return false;
            }
            for (int i = 0; i < name.length(); i++) {
                if (text[start + i] != name.charAt(i)) {
                    return false;
                }
            }
            return true;
        }

        private boolean pass(char sign) {
            if (!isAt(sign)) {
                return refuse(CANNOT_STAND);
            }
            step();
            return true;
        }

        /** Passes one of ( and [ that opens, if not too many are open. */
        private boolean passOpening(char sign, int open) {
            boolean stands = isAt(sign);
            if (!stands || open >= MOST_OPEN) {
                return refuse(stands ? TOO_MANY : CANNOT_STAND);
            }
            step();
            return true;
        }

        private boolean readClause(int clause) {
            int word = clauseWord();
            if (word == NONE) {
                return refuse(CANNOT_STAND);
            }
            if (clause >= CLAUSES) {
                return refuse(TOO_MANY);
            }
            step();
            law.beginClause(word);
            if (!readSum(0)) {
                return false;
            }
            law.closeValue();
            if (isAt("if")) {
                step();
                if (!readEither(0)) {
                    return false;
                }
            }
            law.closeClause();
            return pass(';');
        }

        private int clauseWord() {
            if (isAt("learn")) {
                return LEARN;
            }
            if (isAt("order")) {
                return ORDER;
            }
            if (isAt("lose")) {
                return LOSE;
            }
            return isAt("must") ? MUST : NONE;
        }

        private boolean readSum(int open) {
            boolean well = readProduct(open);
            for (int i = 0; i < length && well && (isAt('+') || isAt('-')); i++) {
                int code = isAt('+') ? Law.PLUS : Law.MINUS;
                step();
                well = readProduct(open);
                law.put(code);
            }
            return well;
        }

        private boolean readProduct(int open) {
            boolean well = readUnit(open);
            for (int i = 0; i < length && well && (isAt('*') || isAt('/')); i++) {
                int code = isAt('*') ? Law.TIMES : Law.BY;
                step();
                well = readUnit(open);
                law.put(code);
            }
            return well;
        }

        private boolean readUnit(int open) {
            if (token == DIGITS) {
                if (number > GREATEST) {
                    return refuse(TOO_GREAT);
                }
                law.put(number);
                step();
                return true;
            }
            if (isAt('(')) {
                return passOpening('(', open) && readSum(open + 1) && pass(')');
            }
            if (isAt("least")) {
                return readCouple(Law.LEAST, open);
            }
            if (isAt("most")) {
                return readCouple(Law.MOST, open);
            }
            int fact = factName();
            if (fact == NONE) {
                return refuse(CANNOT_STAND);
            }
            law.put(Law.FACT + fact);
            step();
            return true;
        }

        private boolean readCouple(int code, int open) {
            step();
            boolean well = passOpening('(', open) && readSum(open + 1) && pass(',')
                    && readSum(open + 1) && pass(')');
            law.put(code);
            return well;
        }

        private int factName() {
            if (isAt("age")) {
                return Law.AGE;
            }
            if (isAt("there")) {
                return Law.THERE;
            }
            if (isAt("right")) {
                return Law.RIGHT;
            }
            if (isAt("shown")) {
                return Law.SHOWN;
            }
            if (isAt("weight")) {
                return Law.WEIGHT;
            }
            return isAt("talks") ? Law.TALKS_TAKEN : NONE;
        }

        private boolean readEither(int open) {
            boolean well = readBoth(open);
            for (int i = 0; i < length && well && isAt("or"); i++) {
                step();
                well = readBoth(open);
                law.put(Law.OR);
            }
            return well;
        }

        private boolean readBoth(int open) {
            boolean well = readBasic(open);
            for (int i = 0; i < length && well && isAt("and"); i++) {
                step();
                well = readBasic(open);
                law.put(Law.AND);
            }
            return well;
        }

        private boolean readBasic(int open) {
            if (isAt("not")) {
                if (open >= MOST_OPEN) {
                    return refuse(TOO_MANY);
                }
                step();
                boolean well = readBasic(open + 1);
                law.put(Law.NOT);
                return well;
            }
            if (isAt('[')) {
                return passOpening('[', open) && readEither(open + 1) && pass(']');
            }
            if (!readSum(open)) {
                return false;
            }
            int code = comparison();
            if (code == NONE) {
                return refuse(CANNOT_STAND);
            }
            step();
            boolean well = readSum(open);
            law.put(code);
            return well;
        }

        private int comparison() {
            if (isAt('<')) {
                return Law.BELOW;
            }
            if (isAt('>')) {
                return Law.ABOVE;
            }
            return isAt('=') ? Law.SAME : NONE;
        }
    }
}
