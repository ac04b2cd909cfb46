import java.io.IOException;
import java.nio.file.Files;
import java.nio.file.Path;
import java.util.ArrayList;
import java.util.List;

/** What README.md says is true: its examples stand here as they stand there, and answer as it says. */
public final class ReadmeTest {
    private static final Check check = new Check();

    public static void main(String[] args) throws IOException {
        examplesStandHere();
        testsAreNamed();
        ofTheClass();
        ofLaws();
        whatElseIsSaid();
        check.end();
    }

    private static void ofTheClass() {
        YardTalk yard = new YardTalk();
        int teacher = yard.come(0, 20, true);            // 0: a teacher comes to yard 0
        int child = yard.come(0, 5, false);              // 1: a young one comes
        int right = yard.talk(teacher, child, 0, 1, 2);  // 1 if it is taken right, else 0
        int talks = yard.run(0, 200);                    // 200: so many talks were made, all drawn
        boolean holds = yard.holds(child, 0);            // true: it holds order 0 by now
        int first = yard.first(0, 0);                    // 0: the teacher held it first
        int since = yard.since(child, 0);                // the talk behind which the child held it first
        int year = yard.years(1);                        // 1: a year has gone by

        check.due("teacher", 0, () -> teacher);
        check.due("child", 1, () -> child);
        check.due("right", yard.note(0, 14), () -> right);
        check.due("talks", 200, () -> talks);
        check.due("holds", true, () -> holds);
        check.due("first", 0, () -> first);
        check.due("since", true, () -> since > 0 && since < 201);
        check.due("year", 1, () -> year);
    }

    static int readLaw(YardTalk yard, String text) {
        for (int from = 0; from < text.length(); from += 20) {
            int[] five = new int[5];
            for (int i = 0; i < 20; i++) {
                int place = from + i;
                five[i / 4] = five[i / 4] << 8 | (place < text.length() ? text.charAt(place) : ' ');
            }
            yard.feed(five[0], five[1], five[2], five[3], five[4]);
        }
        return yard.law(text.length());
    }

    private static void ofLaws() {
        YardTalk yard = new YardTalk();
        int law = readLaw(yard, "learn 20; order 40 if shown=1; must 50;");  // 0
        int was = yard.force(law);                                           // -1: none was in force
        int bad = readLaw(yard, "must 5000;");                               // -8: a number above 999
        int place = yard.fault();                                            // 5: that number's first byte
        int behind = yard.force(YardTalk.NONE);                              // 0: law 0 was in force

        check.due("law", 0, () -> law);
        check.due("was", -1, () -> was);
        check.due("bad", -8, () -> bad);
        check.due("place", 5, () -> place);
        check.due("behind", 0, () -> behind);
        check.due("300 bytes", 1, () -> readLaw(yard, "must 5;" + " ".repeat(293)));
        check.due("can't stand", -9, () -> readLaw(yard, "must;"));
        check.due("too many", -7, () -> readLaw(yard, "must 5;".repeat(13)));
    }

    private static void whatElseIsSaid() {
        YardTalk yard = new YardTalk();
        check.due("must 50; fed", 20, () -> yard.feed(0x6d757374, 0x2035303b, 0, 0, 0));
        check.due("must 50; read", 0, () -> yard.law(8));
        check.due("the tape is empty then", 0, () -> yard.count(9));
        for (int i = 1; i <= 15; i++) {
            int bytes = 20 * i;
            check.due("fed", bytes, () -> yard.feed(0, 0, 0, 0, 0));
        }
        check.due("the tape is full", -1, () -> yard.feed(0, 0, 0, 0, 0));
        check.throwsNoChild("no such child", () -> yard.leave(0));
        check.throwsOutside("no such law", () -> yard.force(1));
        check.throwsOutside("no such talk", () -> yard.note(0, 0));
        check.throwsOutside("no such film", () -> yard.fits(0, -1));
        check.throwsIllegal("no such yard", () -> yard.come(3, 0, false));
        check.due("count(99)", -1, () -> yard.count(99));
        check.due("a film", 0, () -> yard.film());
        check.throwsIllegal("no such talk of the film", () -> yard.gap(0, 0));
        yard.years(60);
        check.due("beyond YEAR 60", "throws.IllegalStateException", () -> yard.years(1));
    }

    /** Each block of Java in README.md stands in this file, line by line. */
    private static void examplesStandHere() throws IOException {
        List<String> here = trimmed(Files.readString(Path.of("src/test/java/ReadmeTest.java")));
        String[] parts = Files.readString(Path.of("README.md")).split("```");
        int blocks = 0;
        for (int i = 1; i < parts.length; i += 2) {
            if (parts[i].startsWith("java\n")) {
                List<String> block = trimmed(parts[i].substring(5));
                blocks++;
                check.due("README.md: " + block.get(0), true, () -> hasRow(here, block));
            }
        }
        int found = blocks;
        check.due("blocks of Java", 3, () -> found);
    }

    private static boolean hasRow(List<String> lines, List<String> row) {
        for (int i = 0; i + row.size() <= lines.size(); i++) {
            if (lines.subList(i, i + row.size()).equals(row)) {
                return true;
            }
        }
        return false;
    }

    private static List<String> trimmed(String text) {
        List<String> found = new ArrayList<>();
        for (String line : text.split("\n")) {
            if (!line.isBlank()) {
                found.add(line.trim());
            }
        }
        return found;
    }

    /** README.md names every test of the project. */
    private static void testsAreNamed() throws IOException {
        String page = Files.readString(Path.of("README.md"));
        try (var files = Files.list(Path.of("src/test/java"))) {
            for (Path file : files.sorted().toList()) {
                String name = file.getFileName().toString().replace(".java", "");
                if (name.endsWith("Test")) {
                    check.due("README.md names " + name, true, () -> page.contains("`" + name));
                }
            }
        }
    }
}
