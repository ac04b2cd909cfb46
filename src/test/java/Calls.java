import java.lang.reflect.Method;
import java.util.List;
import java.util.Map;
import java.util.TreeMap;
import java.util.TreeSet;
import java.util.regex.Matcher;
import java.util.regex.Pattern;

/** Which method of a source calls which, by their names alone: methods of one name count as one. */
final class Calls {
    private static final Pattern HEAD = Pattern.compile(
            "(?m)^ {4,8}(?:(?:public|private|static) )*(?!return |throw |new |else |public )[\\w\\[\\]]+ (\\w+)\\(");
    private static final Pattern CALL = Pattern.compile("(\\w+)\\(");

    private final Map<String, TreeSet<String>> called = new TreeMap<>();
    private final Map<String, TreeSet<String>> reached = new TreeMap<>();
    private final Map<String, Integer> depths = new TreeMap<>();

    Calls(String code) {
        Matcher head = HEAD.matcher(code);
        while (head.find()) {
            called.put(head.group(1), new TreeSet<>());
        }
        head.reset();
        String name = null;
        int from = 0;
        while (head.find()) {
            addCalls(name, code.substring(from, head.start()));
            name = head.group(1);
            from = head.end();
        }
        addCalls(name, code.substring(from));
        for (String each : called.keySet()) {
            reached.put(each, reach(each));
        }
    }

    private void addCalls(String name, String body) {
        Matcher call = CALL.matcher(body);
        while (name != null && call.find()) {
            if (called.containsKey(call.group(1))) {
                called.get(name).add(call.group(1));
            }
        }
    }

    private TreeSet<String> reach(String name) {
        TreeSet<String> found = new TreeSet<>(called.get(name));
        int before = 0;
        while (found.size() > before) {
            before = found.size();
            for (String one : List.copyOf(found)) {
                found.addAll(called.get(one));
            }
        }
        return found;
    }

    boolean hasAll(List<Class<?>> classes) {
        TreeSet<String> names = new TreeSet<>();
        for (Class<?> c : classes) {
            for (Method m : c.getDeclaredMethods()) {
                names.add(m.getName());
            }
        }
        return names.equals(called.keySet());
    }

    private TreeSet<String> circleOf(String name) {
        TreeSet<String> found = new TreeSet<>();
        for (String other : reached.get(name)) {
            if (reached.get(other).contains(name)) {
                found.add(other);
            }
        }
        return found;
    }

    String circles() {
        TreeSet<String> found = new TreeSet<>();
        for (String name : called.keySet()) {
            TreeSet<String> circle = circleOf(name);
            if (!circle.isEmpty()) {
                found.add(circle.toString());
            }
        }
        return found.toString();
    }

    /** How many calls stand open at once from here on, a circle counted as one. */
    private int depth(String name) {
        Integer known = depths.get(name);
        if (known != null) {
            return known;
        }
        TreeSet<String> circle = circleOf(name);
        circle.add(name);
        int deepest = 0;
        for (String one : circle) {
            for (String other : called.get(one)) {
                if (!circle.contains(other)) {
                    deepest = Math.max(deepest, depth(other));
                }
            }
        }
        depths.put(name, deepest + 1);
        return deepest + 1;
    }

    String deeperThan(int most) {
        TreeSet<String> found = new TreeSet<>();
        for (String name : called.keySet()) {
            if (depth(name) > most) {
                found.add(name + " " + depth(name));
            }
        }
        return found.toString();
    }
}
