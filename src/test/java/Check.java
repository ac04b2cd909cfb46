/** What the tests share: answers as text, a count of the wrong ones, and laws put on the tape. */
final class Check {
    interface Call {
        Object now();
    }

    private int wrong = 0;
    private int asked = 0;

    /** An exception's answer is "throws." and its name. */
    static String answer(Call call) {
        try {
            return String.valueOf(call.now());
        } catch (RuntimeException e) {
            return "throws." + e.getClass().getSimpleName();
        }
    }

    void due(String what, Object want, Call call) {
        asked++;
        String got = answer(call);
        if (!got.equals(String.valueOf(want))) {
            wrong++;
            System.out.println(what + ": answered " + got + ", due is " + want);
        }
    }

    void throwsIllegal(String what, Call call) {
        due(what, "throws.IllegalArgumentException", call);
    }

    void throwsNoChild(String what, Call call) {
        due(what, "throws.NoSuchElementException", call);
    }

    void throwsOutside(String what, Call call) {
        due(what, "throws.IndexOutOfBoundsException", call);
    }

    void end() {
        System.out.println(asked + " answers asked, " + wrong + " wrong");
        if (wrong != 0) {
            System.exit(1);
        }
    }

    /** The text's numbers for feed(), filled up with zeros to a multiple of five. */
    static int[] numbers(String text) {
        int[] row = new int[(text.length() + 19) / 20 * 5];
        for (int i = 0; i < text.length(); i++) {
            row[i / 4] |= (text.charAt(i) & 255) << 24 - i % 4 * 8;
        }
        return row;
    }

    static int law(YardTalk x, String text) {
        int[] row = numbers(text);
        for (int i = 0; i < row.length; i += 5) {
            x.feed(row[i], row[i + 1], row[i + 2], row[i + 3], row[i + 4]);
        }
        return x.law(text.length());
    }
}
