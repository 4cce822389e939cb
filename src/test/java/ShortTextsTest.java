/** All short texts of some letters, on the program and on the model: how many ITEMS, or FAULT. */
public final class ShortTextsTest {
    private static final Due due = new Due("ShortTextsTest");

    public static void main(String[] args) {
        allTexts("", "m013; x", 6);
        allTexts("b", "m0134; ", 5);
        allTexts("e0", " 0134;e", 6);
        allTexts("n0", " 0123;", 6);
        allTexts("g0", " 0129;", 6);
        due.ends();
    }

    /** A start, and behind it all texts of these letters, up to a length. */
    private static void allTexts(String start, String letters, int length) {
        int texts = 1;
        for (int n = 0; n <= length; n++) {
            for (int k = 0; k < texts; k++) {
                StringBuilder text = new StringBuilder(start);
                for (int rest = k, at = 0; at < n; at++, rest /= letters.length()) {
                    text.append(letters.charAt(rest % letters.length()));
                }
                tells(text.toString());
            }
            texts *= letters.length();
        }
    }

    private static void tells(String text) {
        QuietPairs x = new QuietPairs();
        Model m = new Model();
        for (char letter : text.toCharArray()) {
            x.type(letter);
            m.type(letter);
        }
        due.is("tells of '" + text + "'", x.tells(), m.tells());
        due.is("letters behind '" + text + "'", x.count(6), m.count(6));
        due.is("MASK behind '" + text + "'", x.count(2), m.count(2));
    }
}
