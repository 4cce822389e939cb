/** Counts and prints the answers that are not as due. */
final class Due {
    private final String test;
    private int calls = 0;
    private int wrong = 0;

    Due(String test) {
        this.test = test;
    }

    void is(String call, long got, long want) {
        calls++;
        if (got != want) {
            wrong++;
            System.out.println(test + ": " + call + " answered " + got + ", due is " + want);
        }
    }

    /** Types a text, without a look at the answers. */
    static void types(QuietPairs x, String text) {
        for (char letter : text.toCharArray()) {
            x.type(letter);
        }
    }

    /** A new object told a text, with LINES on as these bits say. */
    static QuietPairs made(String text, int on) {
        QuietPairs x = new QuietPairs();
        types(x, text);
        if (x.tells() < 0) {
            throw new IllegalStateException("a test's own text has a fault: " + text);
        }
        for (int line = 0; line < 4; line++) {
            if ((on >> line & 1) == 1) {
                x.joins(line);
            }
        }
        return x;
    }

    /** All that can be seen of an object without changing it, as one text. */
    static String view(QuietPairs x) {
        StringBuilder all = new StringBuilder();
        for (int what = 0; what < 8; what++) {
            all.append(x.count(what)).append(' ');
        }
        for (int j = 0; j < 4; j++) {
            all.append('/');
            for (int what = 0; what < 4; what++) {
                all.append(x.line(j, what)).append(' ');
            }
            for (int at = 0; at < 12; at++) {
                all.append(x.pair(j, at / 3, at % 3)).append(' ');
            }
            for (int at = 0; at < 9; at++) {
                all.append(x.tone(j, at / 3, at % 3)).append(' ');
            }
        }
        return all.toString();
    }

    /** A call that must be refused, and has to leave all as it was. */
    void unchanged(String call, String before, QuietPairs x) {
        calls++;
        String after = view(x);
        if (!before.equals(after)) {
            wrong++;
            System.out.println(test + ": " + call + " changed " + before + " to " + after);
        }
    }

    void ends() {
        System.out.println(test + ": " + calls + " answers looked at, " + wrong + " not as due");
        if (wrong != 0 || calls == 0) {
            System.exit(1);
        }
    }
}
