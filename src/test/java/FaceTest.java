import java.io.IOException;
import java.lang.reflect.Constructor;
import java.lang.reflect.Field;
import java.lang.reflect.Method;
import java.lang.reflect.Modifier;
import java.nio.file.Files;
import java.nio.file.Path;
import java.util.ArrayList;
import java.util.List;
import java.util.TreeSet;
import java.util.regex.Matcher;
import java.util.regex.Pattern;

/** The face is the document's, and the source keeps to the rules of the language that a look can tell. */
public final class FaceTest {
    private static final Check check = new Check();

    public static void main(String[] args) throws IOException {
        String document = Files.readString(Path.of("../shared/DOC.md"));
        String block = document.substring(document.indexOf("```java"), document.indexOf("## Terms"));
        check.due("methods", methodsOf(block), () -> methodsOfClass());
        check.due("NONE", -1, () -> YardTalk.NONE);
        check.due("final", true, () -> Modifier.isFinal(YardTalk.class.getModifiers()));
        check.due("one public constructor", "[public YardTalk()]", () -> {
            List<String> found = new ArrayList<>();
            for (Constructor<?> c : YardTalk.class.getDeclaredConstructors()) {
                found.add(c.toString());
            }
            return found;
        });
        check.due("other members are private", "[]", () -> openMembers());
        check.due("no private method bears a public name", "[]", () -> sharedNames());
        check.due("twelve classes at most", true, () -> classes().size() <= 12);
        check.due("no class or method is too wide", "[]", () -> tooWide());
        source(Files.readString(Path.of("src/main/java/YardTalk.java")));
        check.end();
    }

    private static String methodsOf(String block) {
        TreeSet<String> found = new TreeSet<>();
        Matcher m = Pattern.compile("public (\\w+ \\w+\\([^)]*\\))( throws ([^;]*))?;").matcher(block);
        while (m.find()) {
            String parameters = m.group(1).replaceAll("(int|boolean) \\w+([,)])", "$1$2");
            found.add(parameters + " " + (m.group(3) == null ? "" : m.group(3)));
        }
        return found.size() + " " + found;
    }

    private static String methodsOfClass() {
        TreeSet<String> found = new TreeSet<>();
        for (Method m : YardTalk.class.getDeclaredMethods()) {
            if (Modifier.isPublic(m.getModifiers())) {
                found.add(m.getReturnType() + " " + m.getName() + "(" + names(m.getParameterTypes()) + ") "
                        + names(m.getExceptionTypes()));
            }
        }
        return found.size() + " " + found;
    }

    private static String names(Class<?>[] types) {
        List<String> found = new ArrayList<>();
        for (Class<?> type : types) {
            found.add(type.getSimpleName());
        }
        return String.join(", ", found);
    }

    private static List<String> openMembers() {
        List<String> found = new ArrayList<>();
        for (Field f : YardTalk.class.getDeclaredFields()) {
            if (!Modifier.isPrivate(f.getModifiers()) && !f.getName().equals("NONE")) {
                found.add(f.getName());
            }
            if (Modifier.isStatic(f.getModifiers()) && !Modifier.isFinal(f.getModifiers())) {
                found.add(f.getName());
            }
        }
        for (Method m : YardTalk.class.getDeclaredMethods()) {
            if (!Modifier.isPrivate(m.getModifiers()) && !Modifier.isPublic(m.getModifiers())) {
                found.add(m.getName());
            }
        }
        return found;
    }

    private static List<String> sharedNames() {
        List<String> open = new ArrayList<>();
        for (Method m : YardTalk.class.getDeclaredMethods()) {
            if (Modifier.isPublic(m.getModifiers())) {
                open.add(m.getName());
            }
        }
        List<String> found = new ArrayList<>();
        for (Class<?> c : classes()) {
            for (Method m : c.getDeclaredMethods()) {
                if (!Modifier.isPublic(m.getModifiers()) && open.contains(m.getName())) {
                    found.add(m.getName());
                }
            }
        }
        return found;
    }

    private static List<Class<?>> classes() {
        List<Class<?>> classes = new ArrayList<>(List.of(YardTalk.class.getDeclaredClasses()));
        classes.add(YardTalk.class);
        return classes;
    }

    /** Classes of more than twenty fields beside constants, methods of more than seven parameters. */
    private static List<String> tooWide() {
        List<String> found = new ArrayList<>();
        for (Class<?> c : classes()) {
            int fields = 0;
            for (Field f : c.getDeclaredFields()) {
                fields += Modifier.isStatic(f.getModifiers()) ? 0 : 1;
            }
            if (fields > 20) {
                found.add(c.getSimpleName());
            }
            for (Method m : c.getDeclaredMethods()) {
                if (m.getParameterCount() > 7) {
                    found.add(m.getName());
                }
            }
        }
        return found;
    }

    private static void source(String text) {
        String code = text.replaceAll("/\\*(?s:.*?)\\*/", "").replaceAll("//.*", "");
        for (String banned : List.of("->", "::", "\\btry\\b", "\\bcatch\\b", "\\bfinally\\b", "\\bsynchronized\\b",
                "\\bassert\\b", "\\bpackage\\b", "\\bdouble\\b", "\\bfloat\\b", "\\bSystem\\.(?!arraycopy)",
                "Exact\\b", "\\bstatic\\s*\\{", "\"\\s*\\+", "\\+\\s*\"", "[^\\x00-\\x7f]")) {
            check.due("the source has no " + banned, false, () -> Pattern.compile(banned).matcher(code).find());
        }
        check.due("one import", "[import java.util.NoSuchElementException;]", () -> {
            List<String> found = new ArrayList<>();
            Matcher m = Pattern.compile("import .*;").matcher(code);
            while (m.find()) {
                found.add(m.group());
            }
            return found;
        });
        check.due("methods stay short", "[]", () -> longMethods(text));
        Calls calls = new Calls(code);
        check.due("all methods are found", true, () -> calls.hasAll(classes()));
        check.due("those that call one another",
                "[[readBasic, readBoth, readEither], [readCouple, readProduct, readSum, readUnit]]", () -> calls.circles());
        check.due("calls go eight deep at most", "[]", () -> calls.deeperThan(8));
    }

    private static List<String> longMethods(String text) {
        List<String> found = new ArrayList<>();
        String[] lines = text.split("\n");
        int start = -1;
        for (int i = 0; i < lines.length; i++) {
            if (lines[i].matches(" {4,8}[\\w ].*\\(.*") && !lines[i].contains(";") && !lines[i].contains("class ")) {
                start = i;
            }
            if (start >= 0 && lines[i].matches(" {4,8}\\}") && i - start > 60) {
                found.add(lines[start].trim());
            }
        }
        return found;
    }
}
