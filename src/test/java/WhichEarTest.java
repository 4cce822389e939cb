/** Promises 20 to 23: tries, forget, which, ask. */
public final class WhichEarTest {
    private static final Due due = new Due("WhichEarTest");

    public static void main(String[] args) {
        refuses();
        suspects();
        linesNotOn();
        asks();
        findsEach();
        due.ends();
    }

    private static void refuses() {
        QuietPairs x = new QuietPairs();
        due.is("tries(-1, 0, 0)", x.tries(-1, 0, 0), QuietPairs.BAD);
        due.is("tries(4, 0, 0)", x.tries(4, 0, 0), QuietPairs.BAD);
        due.is("tries(0, -1, 0)", x.tries(0, -1, 0), QuietPairs.BAD);
        due.is("tries(0, 16, 0)", x.tries(0, 16, 0), QuietPairs.BAD);
        due.is("tries(0, 0, -1)", x.tries(0, 0, -1), QuietPairs.BAD);
        due.is("tries(0, 0, 2)", x.tries(0, 0, 2), QuietPairs.BAD);
        due.is("which(-1)", x.which(-1), QuietPairs.BAD);
        due.is("which(2)", x.which(2), QuietPairs.BAD);
        due.is("count(5)", x.count(5), 0);
        for (int n = 1; n <= 8; n++) {
            due.is("tries " + n, x.tries(3, 15, 1), n);
        }
        due.is("tries, full", x.tries(3, 15, 1), QuietPairs.FULL);
        due.is("tries, full and BAD", x.tries(3, 16, 1), QuietPairs.BAD);
        due.is("count(5)", x.count(5), 8);
        due.is("forget", x.forget(), 8);
        due.is("forget again", x.forget(), 0);
        due.is("nothing of it is DONE", x.count(7), 0);
    }

    private static void suspects() {
        QuietPairs x = Due.made("", 15);
        due.is("which(0), nothing tried", x.which(0), 16);
        due.is("which(1), nothing tried", x.which(1), 0);
        x.tries(0, 15, 1);
        due.is("which(0), 0 hears all well", x.which(0), 12);
        due.is("which(1)", x.which(1), 4);
        x.tries(1, 0, 1);
        due.is("which(0), the empty set tells nothing", x.which(0), 12);
        x.tries(2, 10, 0);
        due.is("which(0), 2 does not hear 1 and 3 well", x.which(0), 2);
        due.is("which(1)", x.which(1), 9);
        x.tries(2, 2, 1);
        due.is("which(1)", x.which(1), 11);
        due.is("which(0)", x.which(0), 1);
        x.tries(3, 15, 0);
        due.is("which(0), two not well", x.which(0), 0);
        due.is("which(1)", x.which(1), QuietPairs.NONE);
        due.is("ask", x.ask(), QuietPairs.NONE);
        x.forget();
        x.tries(2, 0, 0);
        due.is("which(0), the empty set not well", x.which(0), 0);
    }

    private static void linesNotOn() {
        QuietPairs x = new QuietPairs();
        due.is("which(0), no LINE on", x.which(0), 0);
        due.is("which(1), no LINE on", x.which(1), QuietPairs.NONE);
        due.is("ask, no LINE on", x.ask(), QuietPairs.NONE);
        x.joins(2);
        due.is("which(0), one", x.which(0), 1);
        due.is("which(1), one", x.which(1), 10);
        due.is("ask, one", x.ask(), QuietPairs.NONE);
        x.joins(1);
        due.is("which(0), two", x.which(0), 4);
        due.is("which(1), two", x.which(1), 5);
        x.tries(1, 13, 0);
        due.is("which(0): 0, 3 are silent", x.which(0), 1);
        due.is("which(1)", x.which(1), 6);
        x.joins(0);
        due.is("which(0): 0 is on when it is asked", x.which(0), 2);
        due.is("which(1)", x.which(1), 4);
        x.leaves(1);
        due.is("which(0): 1, not on, would hear well", x.which(0), 0);
        x.forget();
        x.tries(1, 15, 1);
        due.is("which(0): 1, not on, tells nothing", x.which(0), 4);
    }

    private static void asks() {
        QuietPairs x = Due.made("", 15);
        due.is("ask of 16", x.ask(), 15);
        x.tries(0, 15, 1);
        due.is("ask of 12", x.ask(), 16 + 15);
        x.tries(1, 15, 1);
        due.is("ask of 8", x.ask(), 32 + 15);
        x.tries(2, 15, 0);
        due.is("ask of 4", x.ask(), 32 + 3);
        x.tries(2, 3, 0);
        due.is("ask of 2", x.ask(), 32 + 1);
        x.tries(2, 1, 1);
        due.is("ask of 1", x.ask(), QuietPairs.NONE);
        due.is("which(1)", x.which(1), 9);
        QuietPairs y = Due.made("", 10);
        due.is("ask of 4, LINES 1 and 3", y.ask(), 16 + 10);
        y.tries(1, 10, 1);
        due.is("ask of 2", y.ask(), 48 + 2);
        QuietPairs z = Due.made("", 15);
        z.tries(0, 14, 1);
        z.tries(1, 13, 1);
        z.tries(2, 11, 1);
        z.tries(3, 7, 1);
        due.is("which(0): each for itself", z.which(0), 4);
        due.is("ask: one of four", z.ask(), 1);
        z.tries(0, 1, 1);
        due.is("ask: one of three", z.ask(), 16 + 2);
    }

    /** Asking and trying leads to each EAR, within the eight tries. */
    private static void findsEach() {
        for (int ear = 0; ear < 16; ear++) {
            QuietPairs x = Due.made("", 15);
            int next = x.ask();
            for (int n = 0; n < 8 && next != QuietPairs.NONE; n++) {
                boolean heard = next / 16 == ear / 4 && (next % 16 >> ear % 4 & 1) == 1;
                x.tries(next / 16, next % 16, heard ? 0 : 1);
                next = x.ask();
            }
            due.is("which(0) of EAR " + ear, x.which(0), 1);
            due.is("which(1) of EAR " + ear, x.which(1), ear);
        }
    }
}
