import java.lang.reflect.InvocationTargetException;
import java.lang.reflect.Method;
import java.lang.reflect.Modifier;
import java.util.ArrayList;
import java.util.Arrays;
import java.util.Comparator;
import java.util.List;
import java.util.Random;

/** Drawn runs of calls, each answered by the class and by the Model alike. */
public final class ModelTest {
    private static final String[] WORDS = {"learn", "order", "lose", "must", "if", "age", "there", "right", "shown",
        "weight", "talks", "least", "most", "or", "and", "not", "(", ")", "[", "]", ",", ";", "<", ">", "=", "+", "-",
        "*", "/", "0", "7", "50", "999", "1000", "00012", " ", "A", "x", "\t", "\u00e9", "learnx", "5if"};

    private final Random random;
    private final YardTalk own = new YardTalk();
    private final Model model = new Model();
    private final List<String> done = new ArrayList<>();
    private boolean alike = true;

    private ModelTest(long seed) {
        random = new Random(seed);
    }

    public static void main(String[] args) {
        int runs = args.length > 0 ? Integer.parseInt(args[0]) : 400;
        long from = args.length > 1 ? Long.parseLong(args[1]) : 1;
        int wrong = lawsAlike(20000);
        for (long seed = from; seed < from + runs && wrong < 3; seed++) {
            ModelTest test = new ModelTest(seed);
            test.liveThrough();
            if (!test.alike) {
                wrong++;
                int first = Math.max(0, test.done.size() - 600);
                System.out.println("run " + seed + ":\n  " + String.join("\n  ", test.done.subList(first, test.done.size())));
            }
        }
        System.out.println(runs + " runs, " + wrong + " unlike the model");
        if (wrong != 0) {
            System.exit(1);
        }
    }

    private static int lawsAlike(int many) {
        int wrong = 0;
        int[] kinds = new int[4];
        Random random = new Random(99);
        for (int i = 0; i < many; i++) {
            String text = lawText(random);
            YardTalk x = new YardTalk();
            int answer = Check.law(x, text);
            int[] fault = LawModel.fault(text);
            kinds[fault[0]]++;
            if (answer != (fault[0] == 0 ? 0 : fault[0] - 10) || x.fault() != fault[1]) {
                wrong++;
                System.out.println("law '" + text + "': " + answer + " at " + x.fault() + ", due " + Arrays.toString(fault));
            }
        }
        System.out.println(many + " laws; faults of each kind: " + Arrays.toString(kinds));
        return wrong;
    }

    private void liveThrough() {
        if (random.nextInt(4) > 0) {
            prepare();
        }
        List<Method> methods = new ArrayList<>();
        for (Method m : YardTalk.class.getDeclaredMethods()) {
            if (Modifier.isPublic(m.getModifiers())) {
                methods.add(m);
            }
        }
        methods.sort(Comparator.comparing(Method::getName));
        List<Method> often = new ArrayList<>(methods);
        for (Method m : methods) {
            int more = List.of("talk", "run", "note").contains(m.getName()) ? 3 : 0;
            for (int i = 0; i < more; i++) {
                often.add(m);
            }
        }
        int calls = 50 + random.nextInt(300);
        for (int i = 0; i < calls && alike; i++) {
            Method m = often.get(random.nextInt(often.size()));
            if (m.getName().equals("feed") || m.getName().equals("law")) {
                if (random.nextInt(3) == 0) {
                    feedLaw(lawText(random));
                }
            } else if (!rare(m.getName()) || random.nextInt(6) == 0) {
                ask(m, arguments(m));
            }
        }
        if (alike) {
            askAll(methods);
        }
    }

    private static boolean rare(String name) {
        return List.of("restore", "years", "leave", "seeds", "image", "set", "force").contains(name);
    }

    /** A yard with children of all kinds that came in several years, signs that wear soon, and a law or two. */
    private void prepare() {
        int kids = 2 + random.nextInt(22);
        for (int i = 0; i < kids; i++) {
            ask("come", random.nextInt(4) == 0 ? random.nextInt(3) : 0, random.nextInt(21), random.nextInt(6) == 0);
            if (random.nextInt(12) == 0) {
                ask("years", random.nextInt(6));
            }
        }
        if (random.nextBoolean()) {
            ask("set", 0, 10 + random.nextInt(30));
        }
        if (random.nextBoolean()) {
            ask("set", 1, random.nextInt(101));
        }
        int laws = random.nextInt(4);
        for (int i = 0; i < laws; i++) {
            String word = WORDS[random.nextInt(4)];
            feedLaw(random.nextBoolean() ? soundLaw(random) : word + " " + random.nextInt(300) + ";");
        }
        if (laws > 0) {
            ask("force", 0);
        }
        for (int i = random.nextInt(8); i > 0; i--) {
            ask("run", 0, random.nextInt(201));
        }
    }

    private void feedLaw(String text) {
        int[] row = Check.numbers(text);
        for (int i = 0; i < row.length; i += 5) {
            ask("feed", row[i], row[i + 1], row[i + 2], row[i + 3], row[i + 4]);
        }
        ask("law", random.nextInt(8) == 0 ? random.nextInt(320) - 5 : text.length());
        ask("fault");
    }

    private void ask(String name, Object... arguments) {
        for (Method m : YardTalk.class.getDeclaredMethods()) {
            if (m.getName().equals(name) && Modifier.isPublic(m.getModifiers())) {
                ask(m, arguments);
            }
        }
    }

    private void ask(Method m, Object[] arguments) {
        String got = invoke(m, own, arguments);
        String due;
        try {
            due = invoke(Model.class.getDeclaredMethod(m.getName(), m.getParameterTypes()), model, arguments);
        } catch (NoSuchMethodException e) {
            due = "no such method";
        }
        String call = m.getName() + Arrays.toString(arguments) + " = " + got;
        done.add(got.equals(due) ? call : call + ", due " + due);
        alike = alike && got.equals(due);
    }

    private static String invoke(Method m, Object on, Object[] arguments) {
        try {
            return String.valueOf(m.invoke(on, arguments));
        } catch (InvocationTargetException e) {
            return "throws." + e.getCause().getClass().getName();
        } catch (IllegalAccessException e) {
            return "no access";
        }
    }

    /** Mostly numbers that can stand, at times any. */
    private Object[] arguments(Method m) {
        Class<?>[] types = m.getParameterTypes();
        int[] bounds = bounds(m.getName());
        Object[] row = new Object[types.length];
        for (int i = 0; i < row.length; i++) {
            if (types[i] == boolean.class) {
                row[i] = random.nextBoolean();
            } else if (random.nextInt(60) == 0) {
                row[i] = random.nextBoolean() ? random.nextInt() : random.nextInt(12) - 4;
            } else if (bounds[i] == 0) {
                row[i] = random.nextInt(100);
            } else {
                row[i] = random.nextInt(bounds[i] + 2) - 1;
                if (random.nextInt(8) > 0) {
                    row[i] = Math.max(0, Math.min(bounds[i] - 1, (int) row[i]));
                }
            }
        }
        return row;
    }

    private int[] bounds(String name) {
        int child = Math.max(1, model.count(1));
        int talks = random.nextInt(5) == 0 ? 201 : 60;
        int note = Math.max(1, model.count(3));
        int law = Math.max(1, model.count(4));
        int film = Math.max(1, model.count(6));
        switch (name) {
            case "come":
                return new int[] {3, 21, 0};
            case "leave":
            case "plain":
                return new int[] {child};
            case "visit":
                return new int[] {child, 3};
            case "of":
                return new int[] {child, 7};
            case "sign":
                return new int[] {child, 8, 16};
            case "order":
            case "holds":
            case "since":
            case "taught":
            case "root":
                return new int[] {child, 6};
            case "set":
                return new int[] {2, random.nextBoolean() ? 101 : 10001};
            case "years":
                return new int[] {8};
            case "force":
                return new int[] {law};
            case "talk":
                return new int[] {child, child, 4, 4, 4};
            case "run":
                return new int[] {random.nextInt(3) == 0 ? 3 : 1, talks};
            case "note":
                return new int[] {note, 17};
            case "share":
                return new int[] {3, 4, 4, 0};
            case "held":
                return new int[] {3, 6};
            case "first":
                return new int[] {6, 2};
            case "back":
                return new int[] {child, 6, 10};
            case "uses":
            case "seen":
                return new int[] {3, 16};
            case "gap":
                return new int[] {film, 20};
            case "fits":
                return new int[] {film, law};
            case "trial":
                return new int[] {3, talks, law, 6};
            case "fewest":
                return new int[] {3, talks, 101, 6};
            case "needed":
            case "untaught":
                return new int[] {3, talks, 6};
            case "unlike":
                return new int[] {3, 3};
            case "meets":
                return new int[] {child, child};
            case "word":
                return new int[] {3, 8};
            case "blurred":
                return new int[] {3, 4};
            case "nearest":
                return new int[] {3};
            case "odds":
                return new int[] {3, talks, 6, random.nextInt(4) == 0 ? 21 : 5};
            case "right":
                return new int[] {child, note, note};
            case "count":
                return new int[] {12};
            default:
                return new int[] {0, 0, 0, 0, 0};
        }
    }

    /** All that can be asked without a change, at the run's end. */
    private void askAll(List<Method> methods) {
        List<String> asking = List.of("of", "sign", "order", "holds", "note", "held", "first", "back", "uses", "seen",
                "fits", "unlike", "plain", "word", "blurred", "nearest", "since", "taught", "root", "count");
        for (Method m : methods) {
            if (asking.contains(m.getName())) {
                askFor(m, bounds(m.getName()), new Object[m.getParameterCount()], 0);
            }
        }
    }

    private void askFor(Method m, int[] bounds, Object[] row, int i) {
        if (i == row.length) {
            ask(m, row.clone());
            return;
        }
        for (int v = -1; v <= bounds[i]; v++) {
            row[i] = v;
            askFor(m, bounds, row, i + 1);
        }
    }

    // ---- laws

    static String lawText(Random random) {
        String text;
        if (random.nextInt(8) == 0) {
            StringBuilder any = new StringBuilder();
            for (int i = random.nextInt(14); i > 0; i--) {
                any.append(WORDS[random.nextInt(WORDS.length)]).append(random.nextBoolean() ? " " : "");
            }
            text = any.toString();
        } else {
            text = soundLaw(random);
            if (random.nextInt(3) == 0 && !text.isEmpty()) {
                text = spoil(random, text);
            }
        }
        return text.length() > 300 ? text.substring(0, 300) : text;
    }

    private static String spoil(Random random, String text) {
        int at = random.nextInt(text.length());
        String word = WORDS[random.nextInt(WORDS.length)];
        switch (random.nextInt(4)) {
            case 0:
                return text.substring(0, at);
            case 1:
                return text.substring(0, at) + text.substring(at + 1);
            default:
                return text.substring(0, at) + word + text.substring(at);
        }
    }

    static String soundLaw(Random random) {
        StringBuilder text = new StringBuilder();
        int clauses = random.nextInt(10) == 0 ? random.nextInt(16) : random.nextInt(5);
        for (int i = 0; i < clauses; i++) {
            int depth = clauses > 8 ? 0 : random.nextInt(5);
            text.append(WORDS[random.nextInt(4)]).append(' ').append(sum(random, depth));
            if (random.nextBoolean()) {
                text.append(" if ").append(either(random, depth));
            }
            text.append(random.nextInt(5) == 0 ? " ; " : ";");
        }
        return text.toString();
    }

    private static String sum(Random random, int depth) {
        String left = product(random, depth);
        return random.nextInt(3) == 0 ? left + (random.nextBoolean() ? "+" : " - ") + product(random, depth) : left;
    }

    private static String product(Random random, int depth) {
        String left = unit(random, depth);
        return random.nextInt(4) == 0 ? left + (random.nextBoolean() ? "*" : "/ ") + unit(random, depth) : left;
    }

    private static String unit(Random random, int depth) {
        int pick = random.nextInt(depth > 0 ? 7 : 5);
        if (pick < 3) {
            return String.valueOf(random.nextInt(random.nextBoolean() ? 30 : 1010));
        }
        if (pick < 5) {
            return WORDS[5 + random.nextInt(6)];
        }
        if (pick == 5) {
            return "(" + sum(random, depth - 1) + ")";
        }
        return (random.nextBoolean() ? "least(" : "most (") + sum(random, depth - 1) + "," + sum(random, depth - 1) + ")";
    }

    private static String either(Random random, int depth) {
        String left = basic(random, depth);
        for (int i = random.nextInt(3); i > 0 && depth > 0; i--) {
            left += (random.nextBoolean() ? " or " : " and ") + basic(random, depth - 1);
        }
        return left;
    }

    private static String basic(Random random, int depth) {
        int pick = random.nextInt(depth > 0 ? 6 : 3);
        if (pick == 3) {
            return "not not not not".substring(0, 3 + 4 * random.nextInt(4)) + " " + basic(random, depth - 1);
        }
        if (pick > 3) {
            return "[" + either(random, depth - 1) + "]";
        }
        return sum(random, depth) + "<>=".charAt(random.nextInt(3)) + sum(random, depth);
    }
}
