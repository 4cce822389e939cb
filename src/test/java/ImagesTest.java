/** Promises 24 to 26: keep, back, count. */
public final class ImagesTest {
    private static final Due due = new Due("ImagesTest");

    public static void main(String[] args) {
        refuses();
        keepsAll();
        keepsNothingElse();
        counts();
        due.ends();
    }

    private static void refuses() {
        QuietPairs x = new QuietPairs();
        due.is("keep(-1)", x.keep(-1), QuietPairs.BAD);
        due.is("keep(2)", x.keep(2), QuietPairs.BAD);
        due.is("back(-1)", x.back(-1), QuietPairs.BAD);
        due.is("back(2)", x.back(2), QuietPairs.BAD);
        due.is("back(0)", x.back(0), QuietPairs.STATE);
        due.is("back(1)", x.back(1), QuietPairs.STATE);
        due.is("keep(1)", x.keep(1), 0);
        due.is("back(0), only 1 was kept", x.back(0), QuietPairs.STATE);
        x.joins(2);
        String before = Due.view(x);
        due.is("back(0), refused", x.back(0), QuietPairs.STATE);
        due.unchanged("back(0), refused", before, x);
        due.is("back(1)", x.back(1), 0);
        due.is("back(32)", x.back(32), QuietPairs.BAD);
    }

    private static void keepsAll() {
        QuietPairs x = Due.made("e0 1 5;e0 0 2;g0 1 1;g1 0 2;", 3);
        x.trains();
        x.fills(1);
        x.strikes(0, 0, 4);
        String kept = Due.view(x);
        int known = x.count(7);
        due.is("keep(0)", x.keep(0), 2);
        due.is("keep leaves what may be UNDONE", x.count(7), known);
        x.strikes(0, 0, 1);
        x.drifts(0, 1, 9);
        x.leaves(0);
        x.joins(3);
        x.joins(2);
        x.trains();
        x.fills(3);
        due.is("keep(1)", x.keep(1), 3);
        String other = Due.view(x);
        due.is("back(0)", x.back(0), 2);
        due.is("nothing can be UNDONE", x.count(7), 0);
        due.is("undo behind back", x.undo(), QuietPairs.STATE);
        x.joins(2);
        x.undo();
        due.is("all but what may be UNDONE", Due.view(x).equals(withoutUndone(kept)) ? 1 : 0, 1);
        due.is("trains: what was STRUCK came back", x.trains(), 2);
        due.is("LEARNT of 0 for itself: 4 in beat 0", x.pair(0, 0, 1), 3);
        due.is("back(0) again", x.back(0), 2);
        due.is("LEARNT of 0 for itself", x.pair(0, 0, 1), 2);
        due.is("back(1)", x.back(1), 3);
        due.is("as it was kept", Due.view(x).equals(withoutUndone(other)) ? 1 : 0, 1);
        x.leaves(3);
        due.is("keep(1) again", x.keep(1), 2);
        x.joins(3);
        due.is("back(1): the later one", x.back(1), 2);
        due.is("count(0)", x.count(0), 6);
    }

    /** A view's eighth number is how many may be undone. */
    private static String withoutUndone(String view) {
        String[] parts = view.split(" ", 9);
        parts[7] = "0";
        return String.join(" ", parts);
    }

    private static void keepsNothingElse() {
        QuietPairs x = Due.made("", 1);
        x.tries(0, 1, 1);
        Due.types(x, "m1");
        x.keep(0);
        x.tries(0, 1, 0);
        Due.types(x, ";");
        x.back(0);
        due.is("TRIED stays", x.count(5), 2);
        due.is("THE TEXT stays", x.count(6), 3);
        due.is("tells", x.tells(), 1);
        due.is("IMAGES are gone", x.back(0), QuietPairs.STATE);
    }

    private static void counts() {
        QuietPairs x = Due.made("e0 1 5;e1 1 2;e2 0 3;m7;b0 3;", 3);
        due.is("count(-1)", x.count(-1), QuietPairs.BAD);
        due.is("count(8)", x.count(8), QuietPairs.BAD);
        due.is("count(0)", x.count(0), 3);
        due.is("count(1): not of 2, which is not on", x.count(1), 2);
        x.joins(2);
        due.is("count(1)", x.count(1), 3);
        due.is("count(2)", x.count(2), 7);
        due.is("count(3)", x.count(3), 0);
        due.is("count(4)", x.count(4), 0);
        x.fills(1);
        due.is("count(3)", x.count(3), 11);
        due.is("count(4)", x.count(4), 1);
        x.tries(0, 0, 1);
        x.tries(0, 0, 1);
        due.is("count(5)", x.count(5), 2);
        Due.types(x, "xyz");
        due.is("count(6)", x.count(6), 3);
        due.is("count(7)", x.count(7), 4);
        x.undo();
        due.is("count(7)", x.count(7), 3);
        due.is("count(4)", x.count(4), 0);
    }
}
