/** Promises 15 to 18: send, maker, clean, hurt. */
public final class SymbolsTest {
    private static final String PAIR = "e0 0 3;e0 1 5;e1 0 7;e1 1 2;";
    private static final Due due = new Due("SymbolsTest");

    public static void main(String[] args) {
        refuses();
        oneBy();
        sends();
        sendsWhateverS();
        makers();
        nothingCanBeMade();
        rowsChanged();
        cleans();
        hurts();
        due.ends();
    }

    private static void refuses() {
        QuietPairs x = Due.made(PAIR, 3);
        String before = Due.view(x);
        int[][] bad = {
            {-1, 0, 0, 0, 0, 0}, {31, 0, 0, 0, 0, 0}, {0, -1, 0, 0, 0, 0}, {0, 31, 0, 0, 0, 0}, {0, 0, 1, 0, 0, 0}, {0, 0, 0, 30, 0, 0},
            {0, 0, -1, 0, 0, 0}, {0, 0, 0, 31, 0, 0}, {0, 0, 0, 0, -1, 0}, {0, 0, 0, 0, 4, 0}, {0, 0, 0, 0, 2, 0}, {0, 0, 0, 0, 3, 1},
            {0, 0, 0, 0, 0, -1}, {0, 0, 0, 0, 0, 2}, {0, 0, 0, 0, 33, 0}};
        for (int[] b : bad) {
            due.is("send, BAD", x.send(b[0], b[1], b[2], b[3], b[4], b[5]), QuietPairs.BAD);
        }
        int[][] pairs = {{-1, 0}, {0, -1}, {4, 0}, {0, 4}, {2, 0}, {0, 2}, {32, 0}, {0, 33}};
        for (int[] p : pairs) {
            due.is("maker, BAD", x.maker(p[0], p[1]), QuietPairs.BAD);
        }
        due.is("hurt(-1)", x.hurt(-1), QuietPairs.BAD);
        due.is("hurt(4)", x.hurt(4), QuietPairs.BAD);
        due.is("hurt(34)", x.hurt(34), QuietPairs.BAD);
        due.is("hurt(1), on", x.hurt(1), QuietPairs.STATE);
        x.clean();
        x.hurt(2);
        x.send(1, 2, 0, 0, 0, 1);
        x.maker(0, 1);
        due.unchanged("send, maker, clean, hurt", before, x);
        QuietPairs none = new QuietPairs();
        due.is("send, no LINE on", none.send(0, 0, 0, 0, 0, 0), QuietPairs.BAD);
        due.is("maker, no LINE on", none.maker(0, 0), QuietPairs.BAD);
        due.is("clean, no LINE on", none.clean(), 0);
        due.is("hurt, no LINE on", none.hurt(0), 0);
    }

    /** LEARNT of LINE 0 for itself goes through all symbols; GOT is by it. */
    private static void oneBy() {
        for (int v = 1; v < 31; v++) {
            QuietPairs x = Due.made("e0 0 " + v + ";", 1);
            x.trains();
            x.drifts(0, 0, v == 1 ? 2 : 1);
            int q = x.send(1, 0, 0, 0, 0, 1);
            due.is("GOT times " + v, q * v % 31, v == 1 ? 2 : 1);
            due.is("x alone is s", x.send(v, 0, 0, 0, 0, 0), v);
        }
    }

    private static void sends() {
        QuietPairs x = Due.made(PAIR, 3);
        due.is("x of 0, nothing learnt", x.send(4, 9, 0, 0, 0, 0), 4);
        due.is("GOT by 0: 3*4 + 5*9", x.send(4, 9, 0, 0, 0, 1), 57 % 31);
        due.is("GOT by 1: 7*4 + 2*9", x.send(4, 9, 0, 0, 1, 1), 46 % 31);
        x.trains();
        int x0 = x.send(4, 9, 0, 0, 0, 0);
        int x1 = x.send(4, 9, 0, 0, 1, 0);
        due.is("3 x0 + 5 x1 is 3*4", (3 * x0 + 5 * x1) % 31, 12);
        due.is("7 x0 + 2 x1 is 2*9", (7 * x0 + 2 * x1) % 31, 18);
        due.is("GOT by 0 its own", x.send(4, 9, 0, 0, 0, 1), 4);
        due.is("GOT by 1 its own", x.send(4, 9, 0, 0, 1, 1), 9);
        x.drifts(0, 1, 6);
        due.is("GOT by 0 when it has drifted: one more x1 by 3", 3 * x.send(4, 9, 0, 0, 0, 1) % 31, (12 + x1) % 31);
        due.is("x as LEARNT, not as EARS", x.send(4, 9, 0, 0, 1, 0), x1);
        due.is("a LINE that is not on sends nothing", x.send(4, 9, 0, 0, 1, 1), 9);
    }

    private static QuietPairs trainedAndDrifted() {
        QuietPairs x = Due.made("e0 1 4;e0 3 30;e1 0 2;e1 3 8;e3 0 1;e3 1 6;e3 3 29;e1 1 11;", 11);
        x.trains();
        due.is("clean", x.clean(), 11);
        x.drifts(1, 3, 9);
        return x;
    }

    private static void sendsWhateverS() {
        boolean always0 = true;
        boolean always1 = true;
        for (int a = 0; a < 31; a++) {
            QuietPairs x = trainedAndDrifted();
            for (int n = a % 7; n < 31 * 31; n += 7) {
                int b = n % 31;
                int d = n / 31;
                always0 &= x.send(a, b, 0, d, 0, 1) == a;
                always1 &= x.send(a, b, 0, d, 1, 1) == b;
            }
            due.is("clean", x.clean(), 9);
        }
        due.is("0 got its own by whatever s", always0 ? 1 : 0, 1);
        due.is("1 did not", always1 ? 1 : 0, 0);
    }

    private static void makers() {
        QuietPairs x = Due.made(PAIR + "e2 0 9;e2 1 13;e0 2 4;", 7);
        due.is("MAKER of 0 for 0, nothing learnt", x.maker(0, 0), 1);
        due.is("MAKER of 0 for 1, nothing learnt", x.maker(0, 1), 0);
        x.trains();
        for (int i = 0; i < 3; i++) {
            due.is("MAKER of " + i + " for 0", x.maker(i, 0), x.send(1, 0, 0, 0, i, 0));
            due.is("MAKER of " + i + " for 1", x.maker(i, 1), x.send(0, 1, 0, 0, i, 0));
            due.is("MAKER of " + i + " for 2", x.maker(i, 2), x.send(0, 0, 1, 0, i, 0));
        }
        int m00 = x.maker(0, 0);
        int m10 = x.maker(1, 0);
        int m20 = x.maker(2, 0);
        due.is("row 0", (3 * m00 + 5 * m10 + 4 * m20) % 31, 3);
        due.is("row 1", (7 * m00 + 2 * m10) % 31, 0);
        due.is("row 2", (9 * m00 + 13 * m10 + m20) % 31, 0);
        due.is("MAKER for one that is not on", x.maker(0, 3), QuietPairs.BAD);
    }

    private static void nothingCanBeMade() {
        QuietPairs x = Due.made("e0 1 1;e1 0 1;", 3);
        x.trains();
        due.is("send, rows alike", x.send(1, 2, 0, 0, 0, 0), QuietPairs.NONE);
        due.is("send of 0, rows alike: more than one way", x.send(0, 0, 0, 0, 0, 0), QuietPairs.NONE);
        due.is("GOT, rows alike", x.send(1, 2, 0, 0, 1, 1), QuietPairs.NONE);
        due.is("send, BAD ahead of NONE", x.send(1, 2, 1, 0, 0, 0), QuietPairs.BAD);
        due.is("maker, rows alike", x.maker(1, 0), QuietPairs.NONE);
        due.is("clean, rows alike", x.clean(), 0);
        due.is("hurt, none is CLEAN", x.hurt(3), 0);
        x.leaves(1);
        due.is("clean, 0 alone", x.clean(), 1);
        due.is("hurt by 1: nothing could be MADE", x.hurt(1), 1);

        QuietPairs y = Due.made("e0 1 2;e1 0 3;", 3);
        y.strikes(0, 0, 27);
        y.trains();
        due.is("LEARNT for itself is 0", y.pair(0, 0, 1), 0);
        due.is("send, LEARNT for itself 0", y.send(0, 0, 0, 0, 1, 0), QuietPairs.NONE);
        due.is("maker, LEARNT for itself 0", y.maker(1, 1), QuietPairs.NONE);
        due.is("clean, LEARNT for itself 0", y.clean(), 0);
        y.leaves(0);
        due.is("clean, without it", y.clean(), 2);
        due.is("hurt by it", y.hurt(0), 2);
    }

    /** LEARNT rows whose first pivots are 0 behind the first steps, so that rows must be changed. */
    private static void rowsChanged() {
        QuietPairs x = Due.made("e0 1 1;e0 2 2;e1 0 1;e1 2 3;e2 0 5;e2 1 7;e2 3 1;e3 1 4;", 15);
        x.trains();
        int[][] ears = {{1, 1, 2, 0}, {1, 1, 3, 0}, {5, 7, 1, 1}, {0, 4, 0, 1}};
        int[] s = {6, 11, 30, 17};
        int[] made = new int[4];
        for (int i = 0; i < 4; i++) {
            made[i] = x.send(s[0], s[1], s[2], s[3], i, 0);
            due.is("GOT by " + i, x.send(s[0], s[1], s[2], s[3], i, 1), s[i]);
        }
        for (int j = 0; j < 4; j++) {
            int sum = 0;
            for (int i = 0; i < 4; i++) {
                sum += ears[j][i] * made[i];
            }
            due.is("row " + j, sum % 31, ears[j][j] * s[j] % 31);
        }
        due.is("clean", x.clean(), 15);
    }

    private static void cleans() {
        QuietPairs x = Due.made(PAIR, 3);
        due.is("clean, nothing learnt", x.clean(), 0);
        x.trains();
        due.is("clean, learnt", x.clean(), 3);
        x.drifts(1, 1, 3);
        due.is("clean, 1 has drifted", x.clean(), 1);
        x.drifts(1, 2, 3);
        x.undo();
        x.undo();
        x.drifts(1, 2, 3);
        due.is("clean: an EAR for one that is not on is no matter", x.clean(), 3);
    }

    private static void hurts() {
        QuietPairs x = Due.made(PAIR + "e0 2 8;e2 0 1;e3 1 4;", 3);
        x.trains();
        due.is("hurt(2)", x.hurt(2), 1);
        due.is("hurt(3)", x.hurt(3), 0);
        x.drifts(0, 0, 4);
        due.is("hurt(2): 0 is not CLEAN now", x.hurt(2), 0);
        x.undo();
        x.joins(2);
        due.is("clean with 2", x.clean(), 2);
        x.trains();
        x.leaves(2);
        due.is("hurt(2): it is learnt", x.hurt(2), 0);
        x.drifts(0, 2, 9);
        due.is("hurt(2): it has drifted", x.hurt(2), 1);
        due.is("hurt(2) did not let it join", x.count(0), 3);
    }
}
