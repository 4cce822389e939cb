/** Promise 19 (settled), and ROUNDS as promises 10 and 26 tell of them. */
public final class PowerTest {
    private static final Due due = new Due("PowerTest");

    public static void main(String[] args) {
        refuses();
        changesNothing();
        settles();
        goesRound();
        edgesOfSixty();
        lateRounds();
        roundsOneByOne();
        due.ends();
    }

    private static void is(String text, int on, int settled, int period) {
        QuietPairs x = Due.made(text, on);
        due.is("settled(0) of " + text, x.settled(0), settled);
        due.is("settled(1) of " + text, x.settled(1), period);
    }

    private static void refuses() {
        QuietPairs x = new QuietPairs();
        due.is("settled(-1)", x.settled(-1), QuietPairs.BAD);
        due.is("settled(2)", x.settled(2), QuietPairs.BAD);
        due.is("settled(0), no LINE on", x.settled(0), 0);
        due.is("settled(1), no LINE on", x.settled(1), QuietPairs.NONE);
    }

    private static void changesNothing() {
        QuietPairs x = Due.made("g0 2 6;g1 0 5;g2 1 3;", 7);
        x.fills(1);
        String before = Due.view(x);
        x.settled(0);
        x.settled(1);
        due.unchanged("settled", before, x);
    }

    private static void settles() {
        is("b0 0;", 1, 0, QuietPairs.NONE);
        is("", 1, 1, QuietPairs.NONE);
        is("b0 1;", 1, 1, QuietPairs.NONE);
        is("b3 1;n3 0 1;n3 1 1;", 8, 1, QuietPairs.NONE);
        is("", 15, 1, QuietPairs.NONE);
        is("g0 1 3;", 3, 2, QuietPairs.NONE);
        is("g0 1 2;g1 0 2;b0 11;b1 11;", 3, 8, QuietPairs.NONE);
        QuietPairs x = Due.made("g0 1 2;g1 0 2;b0 11;b1 11;", 3);
        for (int left = 7; left >= 0; left--) {
            due.is("fills(1)", x.fills(1), left == 0 ? 1 : 0);
            due.is("settled(0), " + left + " left", x.settled(0), left);
            due.is("count(4)", x.count(4), left == 0 ? 1 : 0);
        }
        due.is("fills(20) of what is STEADY", x.fills(20), 1);
        due.is("settled(0)", x.settled(0), 0);
        x.leaves(0);
        due.is("settled(0), one has left", x.settled(0), 1);
    }

    private static void goesRound() {
        is("g0 2 6;g1 0 5;g2 1 3;", 7, QuietPairs.NONE, 2);
        is("g0 1 5;g0 2 2;g1 0 3;g2 1 4;", 7, QuietPairs.NONE, 3);
        is("g0 1 4;g1 2 7;g2 0 7;", 7, QuietPairs.NONE, 4);
        is("g0 1 1;g1 2 2;g2 0 2;g2 1 1;", 7, QuietPairs.NONE, 5);
        is("g0 1 3;g1 0 4;g1 2 2;g2 0 2;b0 8;b1 7;b2 12;", 7, QuietPairs.NONE, 32);
        is("g0 2 6;g1 0 5;g2 1 3;", 3, 1, QuietPairs.NONE);
    }

    private static void edgesOfSixty() {
        is("g0 1 4;g0 2 1;g0 3 2;g1 0 1;g1 2 1;g1 3 5;g2 0 2;g2 1 3;g2 3 2;g3 0 4;g3 1 4;g3 2 8;b0 11;b1 7;b2 12;b3 6;n3 1 2;",
            15, 60, QuietPairs.NONE);
        is("g0 1 1;g0 2 1;g1 0 6;g1 2 7;g1 3 2;g2 0 1;g2 1 1;g2 3 1;g3 0 2;g3 1 1;b0 12;b1 3;b2 11;b3 7;n3 0 1;n3 1 1;",
            15, QuietPairs.NONE, 60);
        is("g0 1 1;g0 2 1;g1 0 6;g1 2 7;g1 3 2;g2 0 1;g2 3 1;g3 0 2;g3 1 1;b0 12;b1 3;b2 11;b3 7;n3 0 1;n3 1 1;m9;",
            15, QuietPairs.NONE, QuietPairs.NONE);
    }

    /** One that is steady only behind 69 ROUNDS, and one that goes round (by 5) only behind 82. */
    private static void lateRounds() {
        QuietPairs x = Due.made("g0 1 1;g0 2 2;g1 0 3;g1 2 1;g1 3 2;g2 0 1;g2 1 3;g2 3 1;g3 0 2;g3 1 3;g3 2 2;b0 7;b1 10;b2 8;b3 9;m8;", 15);
        due.is("settled(0), 69 left", x.settled(0), QuietPairs.NONE);
        due.is("settled(1), 69 left", x.settled(1), QuietPairs.NONE);
        x.fills(8);
        due.is("settled(0), 61 left", x.settled(0), QuietPairs.NONE);
        due.is("settled(1), 61 left", x.settled(1), QuietPairs.NONE);
        x.fills(1);
        due.is("settled(0), 60 left", x.settled(0), 60);
        due.is("settled(1), 60 left", x.settled(1), QuietPairs.NONE);

        QuietPairs y = Due.made("g0 2 5;g0 3 5;g1 0 8;g1 2 1;g1 3 1;g2 0 2;g2 1 1;g2 3 3;g3 0 3;g3 1 1;b0 1;b1 11;b2 12;b3 10;n0 2 6;n1 0 1;n1 1 1;n2 0 3;", 15);
        due.is("settled(1), 82 ahead", y.settled(1), QuietPairs.NONE);
        y.fills(20);
        y.fills(1);
        due.is("settled(1), 61 ahead", y.settled(1), QuietPairs.NONE);
        y.fills(1);
        due.is("settled(1), 60 ahead", y.settled(1), 5);
        due.is("settled(0), 60 ahead", y.settled(0), QuietPairs.NONE);
    }

    private static void powers(String call, QuietPairs x, int... due9) {
        for (int at = 0; at < due9.length; at++) {
            due.is(call + ": POWER at " + at, x.tone(at / 3, at % 3, 1), due9[at]);
        }
    }

    private static void roundsOneByOne() {
        QuietPairs x = Due.made("g0 1 4;g1 2 7;g2 0 7;", 7);
        x.fills(1);
        powers("first", x, 2, 1, 1, 2, 1, 1, 0, 2, 2);
        x.fills(1);
        powers("second", x, 0, 2, 2, 4, 0, 0, 4, 0, 0);
        QuietPairs y = Due.made("n0 0 2;n0 1 20;b0 7;m4;", 1);
        y.fills(1);
        powers("MASK", y, 3, 0, 4);
        due.is("LEVEL at 0", y.tone(0, 0, 2), 5);
        due.is("LEVELS", y.line(0, 3), 29);
    }
}
