/** Counts and prints the answers that are not as due. */
final class Due {
    /** Numbers that are no LINE: just outside, and such as come round again in shifts, bytes or halves. */
    static final int[] NO_LINES = {
        -1, 4, 5, 7, 8, 16, 31, 32, 33, 35, 64, 256, 65536, -4, -31, -32, Integer.MIN_VALUE, Integer.MAX_VALUE};
    /** EARS, none as at first, no two alike; whichever LINES are ON, all can be MADE when these are LEARNT. */
    private static final int[] EAR = {29, 9, 14, 19, 5, 20, 30, 2, 8, 15, 10, 7, 28, 27, 18, 16};
    static final String EARS =
        "e0 0 29;e0 1 9;e0 2 14;e0 3 19;e1 0 5;e1 1 20;e1 2 30;e1 3 2;e2 0 8;e2 1 15;e2 2 10;e2 3 7;e3 0 28;e3 1 27;e3 2 18;e3 3 16;";

    private final String test;
    private int calls = 0;
    private int wrong = 0;
    private String sentence = "";
    private int sentences = 0;
    private int callsAhead = 0;

    Due(String test) {
        this.test = test;
    }

    /** The document's sentence that the answers from here on are about; one that none is about is wrong itself. */
    void says(String words) {
        endsSentence();
        sentence = " (" + words + ")";
        sentences++;
        callsAhead = calls;
    }

    private void endsSentence() {
        if (!sentence.isEmpty() && calls == callsAhead) {
            wrong++;
            System.out.println(test + sentence + ": no answer was looked at");
        }
    }

    void is(String call, long got, long want) {
        calls++;
        if (got != want) {
            wrong++;
            System.out.println(test + sentence + ": " + call + " answered " + got + ", due is " + want);
        }
    }

    void is(String call, String got, String want) {
        calls++;
        if (!got.equals(want)) {
            wrong++;
            System.out.println(test + sentence + ": " + call + " shows " + got + ", due is " + want);
        }
    }

    /** Types a text, without a look at the answers. */
    static void types(QuietPairs x, String text) {
        for (char letter : text.toCharArray()) {
            x.type(letter);
        }
    }

    /** A new object told a text, with LINES on as these bits say. */
    static QuietPairs made(String text, int on) {
        QuietPairs x = new QuietPairs();
        types(x, text);
        if (x.tells() < 0) {
            throw new IllegalStateException("a test's own text has a fault: " + text);
        }
        for (int line = 0; line < 4; line++) {
            if ((on >> line & 1) == 1) {
                x.joins(line);
            }
        }
        return x;
    }

    /** A text by which a ROUND lays one unit of POWER for j, at the TONE t. */
    static String oneUnitAt(int j, int t) {
        StringBuilder text = new StringBuilder("b" + j + " 1;");
        for (int other = 0; other < 3; other++) {
            text.append("n").append(j).append(' ').append(other).append(other == t ? " 1;" : " 2;");
        }
        return text.toString();
    }

    /** The EAR of j for i that the text EARS tells. */
    static int earOf(int j, int i) {
        return EAR[4 * j + i];
    }

    /** All that can be seen of an object without changing it, as one text. */
    static String view(QuietPairs x) {
        StringBuilder all = new StringBuilder();
        for (int what = 0; what < 8; what++) {
            all.append(x.count(what)).append(' ');
        }
        for (int j = 0; j < 4; j++) {
            all.append('/');
            for (int what = 0; what < 4; what++) {
                all.append(x.line(j, what)).append(' ');
            }
            for (int at = 0; at < 12; at++) {
                all.append(x.pair(j, at / 3, at % 3)).append(' ');
            }
            for (int at = 0; at < 9; at++) {
                all.append(x.tone(j, at / 3, at % 3)).append(' ');
            }
        }
        return all.toString();
    }

    /** A call that must be refused, and has to leave all as it was. */
    void unchanged(String call, String before, QuietPairs x) {
        calls++;
        String after = view(x);
        if (!before.equals(after)) {
            wrong++;
            System.out.println(test + ": " + call + " changed " + before + " to " + after);
        }
    }

    void ends() {
        endsSentence();
        String about = sentences > 0 ? " about " + sentences + " sentences" : "";
        System.out.println(test + ": " + calls + " answers looked at" + about + ", " + wrong + " not as due");
        if (wrong != 0 || calls == 0) {
            System.exit(1);
        }
    }
}
