import java.util.ArrayList;
import java.util.Arrays;
import java.util.List;
import java.util.NoSuchElementException;

/**
 * The document once more, word by word and without thrift: copies of all for each trial, lists, an
 * automaton for the faults. ModelTest holds the class against it on drawn runs of calls.
 */
final class Model {
    static final String[] ORDERS = {"012", "021", "102", "120", "201", "210"};

    static final class Kid {
        int yard;
        int age;
        int came;
        boolean teacher;
        boolean there = true;
        int took;
        int said;
        int[][] sign = new int[8][16];
        int[] order = new int[6];

        int kind() {
            return teacher ? 3 : age < 7 ? 0 : age >= 12 ? 2 : 1;
        }

        Kid copy() {
            Kid k = new Kid();
            k.yard = yard;
            k.age = age;
            k.came = came;
            k.teacher = teacher;
            k.there = there;
            k.took = took;
            k.said = said;
            for (int c = 0; c < 8; c++) {
                k.sign[c] = sign[c].clone();
            }
            k.order = order.clone();
            return k;
        }
    }

    static final class State {
        List<Kid> kids = new ArrayList<>();
        int[][] uses = new int[3][16];
        int choice = 1;
        int chance = 1;
        int year;
        int wear = 1000;
        int point = 50;
        int force = -1;

        State copy() {
            State s = new State();
            for (Kid k : kids) {
                s.kids.add(k.copy());
            }
            for (int y = 0; y < 3; y++) {
                s.uses[y] = uses[y].clone();
            }
            s.choice = choice;
            s.chance = chance;
            s.year = year;
            s.wear = wear;
            s.point = point;
            s.force = force;
            return s;
        }

        int draw(boolean ofChance, int n) {
            int x = (ofChance ? chance : choice) * 1103515245 + 12345;
            if (ofChance) {
                chance = x;
            } else {
                choice = x;
            }
            return (int) ((x & 0xffffffffL) / 65536 % 32768 % n);
        }

        List<Integer> thereIn(int yard) {
            List<Integer> found = new ArrayList<>();
            for (int i = 0; i < kids.size(); i++) {
                if (kids.get(i).there && kids.get(i).yard == yard) {
                    found.add(i);
                }
            }
            return found;
        }

        int seen(int yard, int sign) {
            int low = sign - sign % 2;
            return uses[yard][low] >= wear && uses[yard][low + 1] >= wear ? low : sign;
        }

        int seenWeight(Kid k, int concept, int sign) {
            int sum = 0;
            for (int s = 0; s < 16; s++) {
                if (seen(k.yard, s) == seen(k.yard, sign)) {
                    sum += k.sign[concept][s];
                }
            }
            return sum;
        }
    }

    static final class Talk {
        int year;
        int says;
        int takes;
        int[] meant;
        int order;
        int[] signs = new int[3];
        int orderTaken;
        int[] taken = new int[3];
        boolean right;
        boolean shown;
        int learnt = -1;
        int saysKind;
        int takesKind;
    }

    static final class Film {
        State image;
        List<Talk> talks = new ArrayList<>();
        boolean[] gaps = new boolean[100];
    }

    interface Value {
        int at(Facts f);
    }

    static final class Facts {
        int age;
        int there;
        int right;
        int shown;
        int weight;
        int talks;
    }

    static final class Clause {
        String word;
        Value value;
        Value when;
    }

    State now = new State();
    List<State> images = new ArrayList<>();
    List<Film> films = new ArrayList<>();
    boolean filmOn;
    List<List<Clause>> laws = new ArrayList<>();
    List<Talk> notes = new ArrayList<>();
    int[][] firsts = {{-1, -1}, {-1, -1}, {-1, -1}, {-1, -1}, {-1, -1}, {-1, -1}};
    int[][] sinces = new int[24][6];
    StringBuilder tape = new StringBuilder();
    int faultAt = -1;

    Model() {
        for (int[] row : sinces) {
            Arrays.fill(row, -1);
        }
    }

    // ---- what is thrown

    private Kid kid(int child) {
        if (child < 0 || child >= now.kids.size()) {
            throw new NoSuchElementException();
        }
        return now.kids.get(child);
    }

    private static void in(int v, int low, int high) {
        if (v < low || v > high) {
            throw new IllegalArgumentException();
        }
    }

    private static void inside(int v, int low, int high) {
        if (v < low || v > high) {
            throw new IndexOutOfBoundsException();
        }
    }

    // ---- laws

    private List<Clause> lawAt(int n) {
        return n < 0 ? null : laws.get(n);
    }

    private static int ask(List<Clause> law, String word, Facts f) {
        int value = word.equals("lose") ? 2 : word.equals("must") ? 100 : 10;
        if (law != null) {
            for (Clause c : law) {
                if (c.word.equals(word) && (c.when == null || c.when.at(f) == 1)) {
                    value = Math.min(999, Math.max(0, c.value.at(f)));
                }
            }
        }
        return value;
    }

    private static Facts facts(State s, Kid k, boolean right, boolean shown) {
        Facts f = new Facts();
        f.age = s.year - k.came + k.age;
        f.there = s.year - k.came;
        f.right = right ? 1 : 0;
        f.shown = shown ? 1 : 0;
        f.talks = k.took;
        return f;
    }

    private static int ask(List<Clause> law, String word, Facts f, int weight) {
        f.weight = weight;
        return ask(law, word, f);
    }

    private static boolean holdsIn(State s, Kid k, int order, List<Clause> law) {
        return k.order[order] >= ask(law, "must", facts(s, k, false, false), k.order[order]);
    }

    private static int holders(State s, int yard, int order, List<Clause> law) {
        int found = 0;
        for (int i : s.thereIn(yard)) {
            found += holdsIn(s, s.kids.get(i), order, law) ? 1 : 0;
        }
        return found;
    }

    // ---- talks

    private static int concept(int role, int part) {
        return role == 1 ? part + 4 : part;
    }

    private static int heaviest(int[] weights) {
        int best = 0;
        for (int i = 1; i < weights.length; i++) {
            if (weights[i] > weights[best]) {
                best = i;
            }
        }
        return weights[best] == 0 ? -1 : best;
    }

    private static int clamp(int weight) {
        return weight < 0 ? 0 : weight > 999 ? 999 : weight;
    }

    private static Talk talkIn(State s, int says, int takes, int[] meant, List<Clause> law) {
        Talk t = new Talk();
        Kid a = s.kids.get(says);
        Kid b = s.kids.get(takes);
        t.year = s.year;
        t.says = says;
        t.takes = takes;
        t.meant = meant;
        t.saysKind = a.kind();
        t.takesKind = b.kind();
        t.order = heaviest(a.order);
        if (t.order < 0) {
            t.order = s.draw(true, 6);
        }
        for (int p = 0; p < 3; p++) {
            int role = ORDERS[t.order].charAt(p) - '0';
            t.signs[p] = heaviest(a.sign[concept(role, meant[role])]);
            if (t.signs[p] < 0) {
                t.signs[p] = s.draw(true, 16);
            }
        }
        for (int p = 0; p < 3; p++) {
            s.uses[a.yard][t.signs[p]]++;
        }
        t.orderTaken = heaviest(b.order);
        if (t.orderTaken < 0) {
            t.orderTaken = s.draw(true, 6);
        }
        for (int p = 0; p < 3; p++) {
            int role = ORDERS[t.orderTaken].charAt(p) - '0';
            int[] heard = new int[4];
            for (int part = 0; part < 4; part++) {
                heard[part] = s.seenWeight(b, concept(role, part), t.signs[p]);
            }
            t.taken[role] = Math.max(0, heaviest(heard));
        }
        t.right = Arrays.equals(t.taken, meant);
        t.shown = s.draw(true, 100) < s.point;
        if (!b.teacher) {
            learn(s, b, t, law);
        }
        if (t.right && !a.teacher) {
            for (int p = 0; p < 3; p++) {
                int role = ORDERS[t.order].charAt(p) - '0';
                int[] row = a.sign[concept(role, meant[role])];
                row[t.signs[p]] = clamp(row[t.signs[p]] + 1);
            }
            if (a.kind() != 2) {
                a.order[t.order] = clamp(a.order[t.order] + 1);
            }
        }
        a.said++;
        b.took++;
        return t;
    }

    private static void learn(State s, Kid b, Talk t, List<Clause> law) {
        Facts f = facts(s, b, t.right, t.shown);
        int order = t.shown ? t.order : t.orderTaken;
        int[] meaning = t.shown ? t.meant : t.taken;
        for (int p = 0; p < 3; p++) {
            int role = ORDERS[order].charAt(p) - '0';
            shift(b.sign[concept(role, meaning[role])], s.seen(b.yard, t.signs[p]), law, "learn", f);
        }
        if (b.kind() == 2) {
            return;
        }
        t.learnt = order;
        shift(b.order, order, law, "order", f);
        int own = b.order[order];
        if (b.kind() == 0 && own > Arrays.stream(b.order).sum() - own && own >= ask(law, "must", f, own)) {
            Arrays.fill(b.order, 0);
            b.order[order] = 999;
        }
    }

    private static void shift(int[] weights, int one, List<Clause> law, String more, Facts f) {
        for (int i = 0; i < weights.length; i++) {
            int by = i == one ? ask(law, more, f, weights[i]) : -ask(law, "lose", f, weights[i]);
            weights[i] = clamp(weights[i] + by);
        }
    }

    private static int[] drawTalk(State s, int yard) {
        List<Integer> there = s.thereIn(yard);
        int says = there.remove(s.draw(false, there.size()));
        int takes = there.get(s.draw(false, there.size()));
        int who = s.draw(false, 4);
        int what = s.draw(false, 4);
        return new int[] {says, takes, who, what, s.draw(false, 4)};
    }

    private int keep(int says, int takes, int who, int what, int whom) {
        Talk t = talkIn(now, says, takes, new int[] {who, what, whom}, lawAt(now.force));
        notes.add(t);
        for (int child : new int[] {takes, says}) {
            for (int o = 0; o < 6; o++) {
                if (holdsIn(now, now.kids.get(child), o, lawAt(now.force))) {
                    if (firsts[o][0] < 0) {
                        firsts[o] = new int[] {child, notes.size() - 1};
                    }
                    if (sinces[child][o] < 0) {
                        sinces[child][o] = notes.size() - 1;
                    }
                }
            }
        }
        if (filmOn) {
            Film f = films.get(films.size() - 1);
            f.talks.add(t);
            filmOn = f.talks.size() < 100;
        }
        return t.right ? 1 : 0;
    }

    private static void runIn(State s, int yard, int talks, List<Clause> law) {
        for (int i = 0; i < talks && s.thereIn(yard).size() >= 2; i++) {
            int[] t = drawTalk(s, yard);
            talkIn(s, t[0], t[1], new int[] {t[2], t[3], t[4]}, law);
        }
    }

    private int tryOn(State s, int yard, int talks, List<Clause> law, int order) {
        runIn(s, yard, talks, law);
        return holders(s, yard, order, law);
    }

    // ---- the face

    public void seeds(int choice, int chance) {
        now.choice = choice;
        now.chance = chance;
        filmOn = false;
    }

    public int come(int yard, int age, boolean teacher) {
        in(yard, 0, 2);
        in(age, 0, 20);
        int number = now.kids.size();
        if (number == 24) {
            return -1;
        }
        Kid k = new Kid();
        k.yard = yard;
        k.age = age;
        k.came = now.year;
        k.teacher = teacher;
        for (int c = 0; c < 8; c++) {
            k.sign[c][teacher ? c : (5 * number + 3 * c) % 16] = teacher ? 500 : 10;
        }
        k.order[0] = teacher ? 500 : 0;
        now.kids.add(k);
        filmOn = false;
        return number;
    }

    public int leave(int child) {
        Kid k = kid(child);
        if (!k.there) {
            return 0;
        }
        k.there = false;
        filmOn = false;
        return 1;
    }

    public int visit(int child, int yard) {
        Kid k = kid(child);
        in(yard, 0, 2);
        if (!k.there) {
            return -1;
        }
        int was = k.yard;
        k.yard = yard;
        filmOn = false;
        return was;
    }

    public int of(int child, int what) {
        Kid k = kid(child);
        in(what, 0, 6);
        int held = 0;
        for (int o = 0; o < 6; o++) {
            held += holds(child, o) ? 1 : 0;
        }
        return new int[] {k.yard, k.age + now.year - k.came, k.kind(), k.there ? 1 : 0, k.took, k.said, held}[what];
    }

    public int sign(int child, int concept, int sign) {
        Kid k = kid(child);
        in(concept, 0, 7);
        in(sign, 0, 15);
        return k.sign[concept][sign];
    }

    public int order(int child, int order) {
        Kid k = kid(child);
        in(order, 0, 5);
        return k.order[order];
    }

    public boolean holds(int child, int order) {
        Kid k = kid(child);
        in(order, 0, 5);
        return holdsIn(now, k, order, lawAt(now.force));
    }

    public int set(int what, int v) {
        in(what, 0, 1);
        in(v, what == 0 ? 10 : 0, what == 0 ? 10000 : 100);
        int was = what == 0 ? now.wear : now.point;
        if (what == 0) {
            now.wear = v;
        } else {
            now.point = v;
        }
        filmOn = false;
        return was;
    }

    public int years(int many) {
        in(many, 0, 60);
        if (now.year + many > 60) {
            throw new IllegalStateException();
        }
        now.year += many;
        filmOn = false;
        return now.year;
    }

    public int feed(int a, int b, int c, int d, int e) {
        if (tape.length() > 280) {
            return -1;
        }
        for (int n : new int[] {a, b, c, d, e}) {
            tape.append((char) (n >>> 24)).append((char) (n >> 16 & 255)).append((char) (n >> 8 & 255));
            tape.append((char) (n & 255));
        }
        return tape.length();
    }

    public int law(int n) {
        in(n, 0, tape.length());
        String text = tape.substring(0, n);
        tape.setLength(0);
        faultAt = -1;
        if (laws.size() == 6) {
            return -1;
        }
        int[] fault = LawModel.fault(text);
        if (fault[0] != 0) {
            faultAt = fault[1];
            return fault[0] - 10;
        }
        laws.add(LawModel.clauses(text));
        return laws.size() - 1;
    }

    public int fault() {
        return faultAt;
    }

    public int force(int law) {
        inside(law, -1, laws.size() - 1);
        int was = now.force;
        now.force = law;
        filmOn = false;
        return was;
    }

    public int talk(int says, int takes, int who, int what, int whom) {
        Kid a = kid(says);
        Kid b = kid(takes);
        in(who, 0, 3);
        in(what, 0, 3);
        in(whom, 0, 3);
        if (says == takes) {
            throw new IllegalArgumentException();
        }
        if (notes.size() == 1500) {
            return -1;
        }
        if (!a.there || !b.there || a.yard != b.yard) {
            return -2;
        }
        return keep(says, takes, who, what, whom);
    }

    public int run(int yard, int many) {
        in(yard, 0, 2);
        in(many, 0, 200);
        int made = 0;
        while (made < many && notes.size() < 1500 && now.thereIn(yard).size() >= 2) {
            int[] t = drawTalk(now, yard);
            keep(t[0], t[1], t[2], t[3], t[4]);
            made++;
        }
        return made;
    }

    public int note(int talk, int what) {
        inside(talk, 0, notes.size() - 1);
        in(what, 0, 16);
        Talk t = notes.get(talk);
        return new int[] {t.year, t.says, t.takes, t.meant[0], t.meant[1], t.meant[2], t.order, t.signs[0], t.signs[1],
            t.signs[2], t.orderTaken, t.taken[0], t.taken[1], t.taken[2], t.right ? 1 : 0, t.shown ? 1 : 0, t.learnt}[what];
    }

    public int share(int year, int says, int takes, boolean right) {
        in(says, -1, 3);
        in(takes, -1, 3);
        int found = 0;
        for (Talk t : notes) {
            boolean kinds = (says == -1 || says == t.saysKind) && (takes == -1 || takes == t.takesKind);
            found += t.year == year && kinds && (t.right || !right) ? 1 : 0;
        }
        return found;
    }

    public int held(int yard, int order) {
        in(yard, 0, 2);
        in(order, 0, 5);
        return holders(now, yard, order, lawAt(now.force));
    }

    public int first(int order, int what) {
        in(order, 0, 5);
        in(what, 0, 1);
        return firsts[order][what];
    }

    private List<Integer> backOf(int child, int order) {
        List<Integer> found = new ArrayList<>();
        for (int i = 0; i < notes.size(); i++) {
            if (notes.get(i).takes == child && notes.get(i).learnt == order) {
                found.add(i);
            }
        }
        return found;
    }

    public int back(int child, int order, int k) {
        kid(child);
        in(order, 0, 5);
        List<Integer> found = backOf(child, order);
        return k == -1 ? found.size() : k >= 0 && k < found.size() ? found.get(k) : -1;
    }

    public int uses(int yard, int sign) {
        in(yard, 0, 2);
        in(sign, 0, 15);
        return now.uses[yard][sign];
    }

    public int seen(int yard, int sign) {
        in(yard, 0, 2);
        in(sign, 0, 15);
        return now.seen(yard, sign);
    }

    public int film() {
        if (films.size() == 3) {
            return -1;
        }
        if (filmOn) {
            return -2;
        }
        Film f = new Film();
        f.image = now.copy();
        films.add(f);
        filmOn = true;
        return films.size() - 1;
    }

    public int end() {
        if (!filmOn) {
            return -1;
        }
        filmOn = false;
        return films.get(films.size() - 1).talks.size();
    }

    public int gap(int film, int talk) {
        inside(film, 0, films.size() - 1);
        in(talk, 0, films.get(film).talks.size() - 1);
        boolean was = films.get(film).gaps[talk];
        films.get(film).gaps[talk] = true;
        return was ? 0 : 1;
    }

    public int fits(int film, int law) {
        inside(film, 0, films.size() - 1);
        inside(law, -1, laws.size() - 1);
        Film f = films.get(film);
        State s = f.image.copy();
        for (int i = 0; i < f.talks.size(); i++) {
            Talk t = f.talks.get(i);
            Talk again = talkIn(s, t.says, t.takes, t.meant, lawAt(law));
            if (!f.gaps[i] && !Arrays.equals(again.signs, t.signs)) {
                return i;
            }
        }
        return f.talks.size();
    }

    public int read() {
        int bits = 0;
        for (int law = -1; law < laws.size(); law++) {
            boolean all = true;
            for (int f = 0; f < films.size(); f++) {
                all = all && fits(f, law) == films.get(f).talks.size();
            }
            if (all) {
                bits += law == -1 ? 64 : 1 << law;
            }
        }
        return bits;
    }

    private static void trialArguments(int yard, int talks, int order) {
        in(yard, 0, 2);
        in(talks, 0, 200);
        in(order, 0, 5);
    }

    public int trial(int yard, int talks, int law, int order) {
        inside(law, -1, laws.size() - 1);
        trialArguments(yard, talks, order);
        return tryOn(now.copy(), yard, talks, lawAt(law), order);
    }

    public int fewest(int yard, int talks, int hundredths, int order) {
        trialArguments(yard, talks, order);
        in(hundredths, 1, 100);
        List<Integer> there = now.thereIn(yard);
        for (int m = 2; m <= there.size(); m++) {
            State s = now.copy();
            for (int i = 0; i < s.kids.size(); i++) {
                s.kids.get(i).there = there.subList(0, m).contains(i);
            }
            if (tryOn(s, yard, talks, lawAt(now.force), order) >= m * hundredths / 100.0) {
                return m;
            }
        }
        return -1;
    }

    public int needed(int yard, int talks, int order) {
        trialArguments(yard, talks, order);
        List<Clause> law = lawAt(now.force);
        if (law == null) {
            return 0;
        }
        int all = tryOn(now.copy(), yard, talks, law, order);
        int bits = 0;
        for (int i = 0; i < law.size(); i++) {
            List<Clause> fewer = new ArrayList<>(law);
            fewer.remove(i);
            bits |= tryOn(now.copy(), yard, talks, fewer, order) < all ? 1 << i : 0;
        }
        return bits;
    }

    private int yardHas(int yard, int concept) {
        int[] sums = new int[concept < 0 ? 6 : 16];
        for (int i : now.thereIn(yard)) {
            for (int j = 0; j < sums.length; j++) {
                sums[j] += concept < 0 ? now.kids.get(i).order[j] : now.kids.get(i).sign[concept][j];
            }
        }
        return Math.max(0, heaviest(sums));
    }

    public int unlike(int yard, int other) {
        in(yard, 0, 2);
        in(other, 0, 2);
        if (now.thereIn(yard).isEmpty() || now.thereIn(other).isEmpty()) {
            return -1;
        }
        int found = 0;
        for (int c = -1; c < 8; c++) {
            found += yardHas(yard, c) == yardHas(other, c) ? 0 : 1;
        }
        return found;
    }

    public int meets(int says, int takes) {
        Kid a = kid(says);
        Kid b = kid(takes);
        if (says == takes) {
            throw new IllegalArgumentException();
        }
        if (!a.there || !b.there || a.yard != b.yard) {
            return -1;
        }
        int found = 0;
        for (int m = 0; m < 64; m++) {
            found += talkIn(now.copy(), says, takes, new int[] {m & 3, m >> 2 & 3, m >> 4}, null).right ? 1 : 0;
        }
        return found;
    }

    public int image() {
        if (images.size() == 4) {
            return -1;
        }
        images.add(now.copy());
        return images.size();
    }

    public int restore() {
        if (images.isEmpty()) {
            return -1;
        }
        now = images.remove(images.size() - 1);
        filmOn = false;
        return images.size();
    }

    public int plain(int child) {
        Kid k = kid(child);
        List<String> sayings = new ArrayList<>();
        int order = heaviest(k.order);
        for (int m = 0; m < 64; m++) {
            int[] meaning = {m & 3, m >> 2 & 3, m >> 4};
            StringBuilder said = new StringBuilder();
            for (int p = 0; p < 3; p++) {
                int sign = -1;
                if (order >= 0) {
                    int role = ORDERS[order].charAt(p) - '0';
                    sign = heaviest(k.sign[concept(role, meaning[role])]);
                }
                said.append(sign < 0 ? -1 : now.seen(k.yard, sign)).append(' ');
            }
            sayings.add(said.toString());
        }
        int found = 0;
        for (String s : sayings) {
            found += sayings.indexOf(s) == sayings.lastIndexOf(s) ? 1 : 0;
        }
        return found;
    }

    public int word(int yard, int concept) {
        in(yard, 0, 2);
        in(concept, 0, 7);
        return now.thereIn(yard).isEmpty() ? -1 : yardHas(yard, concept);
    }

    public int blurred(int yard, int k) {
        in(yard, 0, 2);
        if (now.thereIn(yard).isEmpty()) {
            return -1;
        }
        List<Integer> found = new ArrayList<>();
        for (int pair = 0; pair < 64; pair++) {
            int a = pair / 8;
            int b = pair % 8;
            int s = yardHas(yard, a);
            int t = yardHas(yard, b);
            if (a < b && a / 4 == b / 4 && s != t && now.seen(yard, s) == now.seen(yard, t)) {
                found.add(pair);
            }
        }
        return k == -1 ? found.size() : k >= 0 && k < found.size() ? found.get(k) : -1;
    }

    public int nearest(int yard) {
        in(yard, 0, 2);
        int best = -1;
        for (int other = 0; other < 3; other++) {
            if (other != yard && unlike(yard, other) >= 0 && (best < 0 || unlike(yard, other) < unlike(yard, best))) {
                best = other;
            }
        }
        return best;
    }

    public int since(int child, int order) {
        kid(child);
        in(order, 0, 5);
        return sinces[child][order];
    }

    private int taughtBy(int child, int order) {
        int best = -1;
        long most = 0;
        for (int i = 0; i < 24; i++) {
            int who = i;
            long said = backOf(child, order).stream().filter(t -> notes.get(t).says == who).count();
            if (said > most) {
                most = said;
                best = i;
            }
        }
        return best;
    }

    public int taught(int child, int order) {
        kid(child);
        in(order, 0, 5);
        return taughtBy(child, order);
    }

    public int root(int child, int order) {
        kid(child);
        in(order, 0, 5);
        List<Integer> line = new ArrayList<>();
        for (int c = child; c >= 0 && !line.contains(c); c = taughtBy(c, order)) {
            line.add(c);
        }
        return line.get(line.size() - 1);
    }

    public int untaught(int yard, int talks, int order) {
        trialArguments(yard, talks, order);
        State s = now.copy();
        for (Kid k : s.kids) {
            k.there = k.there && !(k.teacher && k.yard == yard);
        }
        return tryOn(s, yard, talks, lawAt(now.force), order);
    }

    public int odds(int yard, int talks, int order, int many) {
        trialArguments(yard, talks, order);
        in(many, 1, 20);
        int found = 0;
        for (int seed = 1; seed <= many; seed++) {
            State s = now.copy();
            s.choice = seed;
            s.chance = seed;
            found += tryOn(s, yard, talks, lawAt(now.force), order) >= s.thereIn(yard).size() / 2.0 ? 1 : 0;
        }
        return found;
    }

    public int right(int child, int from, int to) {
        kid(child);
        if (from > to) {
            throw new IllegalArgumentException();
        }
        int own = 0;
        int found = 0;
        for (int i = 0; i < notes.size(); i++) {
            Talk t = notes.get(i);
            if (i >= from && i <= to && (t.says == child || t.takes == child)) {
                own++;
                found += t.right ? 1 : 0;
            }
        }
        return own == 0 ? -1 : found;
    }

    public int count(int what) {
        if (what < 0 || what > 11) {
            return -1;
        }
        int there = now.thereIn(0).size() + now.thereIn(1).size() + now.thereIn(2).size();
        return new int[] {now.year, now.kids.size(), there, notes.size(), laws.size(), now.force, films.size(),
            filmOn ? films.get(films.size() - 1).talks.size() : -1, images.size(), tape.length(), now.chance,
            now.choice}[what];
    }
}
