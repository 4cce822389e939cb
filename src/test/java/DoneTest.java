/** Promises 5 to 11: what is done, and undone. */
public final class DoneTest {
    private static final Due due = new Due("DoneTest");

    public static void main(String[] args) {
        joinsAndLeaves();
        leavingTakesPower();
        drifts();
        strikes();
        trains();
        trainsWithStrikes();
        trainsOnlyThoseOn();
        fills();
        undoes();
        undoesEach();
        undoesStrikes();
        due.ends();
    }

    private static void joinsAndLeaves() {
        QuietPairs x = new QuietPairs();
        String before = Due.view(x);
        due.is("joins(-1)", x.joins(-1), QuietPairs.BAD);
        due.is("joins(4)", x.joins(4), QuietPairs.BAD);
        due.is("leaves(-1)", x.leaves(-1), QuietPairs.BAD);
        due.is("leaves(4)", x.leaves(4), QuietPairs.BAD);
        due.is("joins(32)", x.joins(32), QuietPairs.BAD);
        due.is("leaves(0) not on", x.leaves(0), QuietPairs.STATE);
        due.unchanged("refused joins, leaves", before, x);
        due.is("joins(3)", x.joins(3), 1);
        due.is("joins(0)", x.joins(0), 2);
        before = Due.view(x);
        due.is("joins(3) on", x.joins(3), QuietPairs.STATE);
        due.unchanged("joins(3) on", before, x);
        due.is("joins(1)", x.joins(1), 3);
        due.is("joins(2)", x.joins(2), 4);
        due.is("count(0)", x.count(0), 15);
        due.is("leaves(1)", x.leaves(1), 3);
        due.is("leaves(1) again", x.leaves(1), QuietPairs.STATE);
        due.is("count(0)", x.count(0), 13);
        due.is("joins(1) again", x.joins(1), 4);
    }

    private static void leavingTakesPower() {
        QuietPairs x = Due.made("g1 0 2;", 3);
        x.fills(1);
        due.is("POWER of 0", x.line(0, 2), 4);
        due.is("LEVELS of 1", x.line(1, 3), 4 + 2 * 4);
        x.leaves(0);
        due.is("POWER of 0 when it has left", x.line(0, 2), 0);
        due.is("LEVELS of 1 then", x.line(1, 3), 4);
        due.is("POWER of 1 stays", x.line(1, 2), 4);
        x.joins(0);
        due.is("POWER of 0 when it has joined", x.line(0, 2), 0);
    }

    private static void drifts() {
        QuietPairs x = Due.made("e0 1 5;", 0);
        String before = Due.view(x);
        int[][] bad = {{-1, 0, 1}, {4, 0, 1}, {0, -1, 1}, {0, 4, 1}, {0, 1, -1}, {0, 1, 31}, {2, 2, 0}, {2, 2, 31}, {0, 0, -1}};
        for (int[] b : bad) {
            due.is("drifts, BAD", x.drifts(b[0], b[1], b[2]), QuietPairs.BAD);
        }
        due.is("drifts to what it is", x.drifts(0, 1, 5), QuietPairs.STATE);
        due.is("drifts to 1 for itself", x.drifts(3, 3, 1), QuietPairs.STATE);
        due.unchanged("refused drifts", before, x);
        due.is("drifts(0, 1, 0)", x.drifts(0, 1, 0), 5);
        due.is("drifts(0, 1, 30)", x.drifts(0, 1, 30), 0);
        due.is("EAR of 0 for 1", x.pair(0, 1, 0), 30);
        due.is("EAR of 1 for 0", x.pair(1, 0, 0), 0);
        due.is("LEARNT of 0 for 1", x.pair(0, 1, 1), 0);
        due.is("drifts(3, 3, 30)", x.drifts(3, 3, 30), 1);
        due.is("count(7)", x.count(7), 3);
    }

    private static void strikes() {
        QuietPairs x = new QuietPairs();
        String before = Due.view(x);
        int[][] bad = {{-1, 0, 1}, {4, 0, 1}, {0, -1, 1}, {0, 4, 1}, {0, 0, 0}, {0, 0, 31}, {0, 0, -1}, {0, 0, Integer.MAX_VALUE}};
        for (int[] b : bad) {
            due.is("strikes, BAD", x.strikes(b[0], b[1], b[2]), QuietPairs.BAD);
        }
        due.unchanged("refused strikes", before, x);
        due.is("strikes(2, 3, 30)", x.strikes(2, 3, 30), 30);
        due.is("strikes(2, 3, 30) again", x.strikes(2, 3, 30), 29);
        due.is("strikes(2, 3, 2)", x.strikes(2, 3, 2), 0);
        due.is("strikes(2, 2, 7)", x.strikes(2, 2, 7), 7);
        due.is("strikes(3, 2, 1)", x.strikes(3, 2, 1), 1);
        due.is("count(7)", x.count(7), 5);
    }

    private static void trains() {
        QuietPairs x = Due.made("e0 0 3;e0 1 5;e0 2 7;e0 3 11;e1 0 13;e1 1 17;e2 3 19;e3 0 23;e3 3 30;", 0);
        String before = Due.view(x);
        due.is("trains, no LINE on", x.trains(), QuietPairs.STATE);
        due.unchanged("refused trains", before, x);
        for (int j = 0; j < 4; j++) {
            x.joins(j);
        }
        due.is("LEARNT not as EARS", x.count(1), 9);
        due.is("trains", x.trains(), 9);
        due.is("LEARNT not as EARS then", x.count(1), 0);
        due.is("LEARNT of 0 for 3", x.pair(0, 3, 1), 11);
        due.is("LEARNT of 3 for 3", x.pair(3, 3, 1), 30);
        due.is("LEARNT of 2 for 0", x.pair(2, 0, 1), 0);
        due.is("trains again", x.trains(), 0);
        due.is("it is DONE all the same", x.count(7), 6);
    }

    /** A strike of 4 in one beat makes LEARNT of j for i more by MARK i in that beat. */
    private static void trainsWithStrikes() {
        int[][] marks = {{1, 1, 1, 1}, {1, 30, 1, 30}, {1, 1, 30, 30}, {1, 30, 30, 1}};
        for (int beat = 0; beat < 4; beat++) {
            QuietPairs x = Due.made("", 15);
            x.strikes(1, beat, 4);
            due.is("trains with a strike in beat " + beat, x.trains(), 4);
            for (int i = 0; i < 4; i++) {
                int plain = i == 1 ? 1 : 0;
                due.is("LEARNT of 1 for " + i + ", struck in beat " + beat, x.pair(1, i, 1), (plain + marks[i][beat]) % 31);
                due.is("LEARNT of 0 for " + i, x.pair(0, i, 1), i == 0 ? 1 : 0);
            }
            due.is("what was STRUCK is no more", x.trains(), 4);
            due.is("LEARNT as EARS", x.count(1), 0);
        }
        QuietPairs y = Due.made("", 3);
        y.strikes(0, 0, 1);
        y.trains();
        due.is("a strike of 1 is by 4", y.pair(0, 1, 1), 8);
        due.is("LEARNT for itself", y.pair(0, 0, 1), 9);
    }

    private static void trainsOnlyThoseOn() {
        QuietPairs x = Due.made("e0 0 3;e0 1 5;e0 2 7;e1 0 2;e2 2 9;", 3);
        x.strikes(2, 0, 5);
        due.is("trains of 0, 1", x.trains(), 3);
        due.is("LEARNT of 0 for 2, not on, stays", x.pair(0, 2, 1), 0);
        due.is("LEARNT of 2 for itself, not on, stays", x.pair(2, 2, 1), 1);
        x.leaves(1);
        x.drifts(0, 1, 6);
        x.drifts(0, 0, 4);
        due.is("trains of 0", x.trains(), 1);
        due.is("LEARNT of 0 for 1, which has left", x.pair(0, 1, 1), 5);
        x.joins(2);
        due.is("trains: the strike of 2, not on, is no more", x.trains(), 2);
        due.is("LEARNT of 2 for itself", x.pair(2, 2, 1), 9);
        due.is("LEARNT of 2 for 0", x.pair(2, 0, 1), 0);
    }

    private static void fills() {
        QuietPairs x = Due.made("n0 0 4;n1 1 2;g0 1 2;g1 0 3;b0 6;b1 5;m4;", 0);
        due.is("fills(0)", x.fills(0), QuietPairs.BAD);
        due.is("fills(21)", x.fills(21), QuietPairs.BAD);
        due.is("fills(1), no LINE on", x.fills(1), QuietPairs.STATE);
        due.is("fills(0), no LINE on", x.fills(0), QuietPairs.BAD);
        due.is("nothing is DONE", x.count(7), 0);
        x.joins(0);
        x.joins(1);
        due.is("fills(1)", x.fills(1), 0);
        int[] first = {0, 3, 3, 4, 0, 1};
        for (int at = 0; at < 6; at++) {
            due.is("POWER at " + at, x.tone(at / 3, at % 3, 1), first[at]);
        }
        due.is("fills(20)", x.fills(20), 1);
        due.is("count(4)", x.count(4), 1);
        QuietPairs y = Due.made("m1;b0 12;", 1);
        due.is("fills: what can't be laid is left out", y.fills(1), 1);
        due.is("POWER", y.line(0, 2), 3);
        QuietPairs z = Due.made("b0 0;", 1);
        due.is("fills: no BUDGET", z.fills(3), 1);
        due.is("POWER", z.count(3), 0);
        QuietPairs w = Due.made("b0 4;b1 4;", 1);
        w.fills(1);
        due.is("of several the lowest TONE", w.tone(0, 0, 1), 2);
        due.is("LINE 1, not on, lays nothing", w.line(1, 2), 0);
        QuietPairs goesRound = Due.made("g0 2 6;g1 0 5;g2 1 3;", 7);
        due.is("fills(20) of what goes round", goesRound.fills(20), 0);
    }

    private static void undoes() {
        QuietPairs x = new QuietPairs();
        due.is("undo, none", x.undo(), QuietPairs.STATE);
        for (int n = 0; n < 9; n++) {
            x.drifts(0, 1, n + 1);
            due.is("count(7)", x.count(7), Math.min(n + 1, 6));
        }
        for (int n = 0; n < 6; n++) {
            due.is("undo", x.undo(), 5 - n);
            due.is("EAR then", x.pair(0, 1, 0), 8 - n);
        }
        due.is("undo, older ones are lost", x.undo(), QuietPairs.STATE);
        due.is("EAR stays", x.pair(0, 1, 0), 3);
        for (int n = 0; n < 4; n++) {
            x.joins(n);
        }
        due.is("undo of joins", x.undo(), 3);
        x.drifts(0, 1, 30);
        due.is("undo of drifts", x.undo(), 3);
        due.is("undo of joins", x.undo(), 2);
        due.is("count(0)", x.count(0), 3);
    }

    private static QuietPairs doneAndKept() {
        QuietPairs x = Due.made("e0 1 5;e0 0 2;g0 1 1;", 3);
        x.strikes(0, 0, 4);
        x.tries(0, 1, 0);
        x.keep(0);
        Due.types(x, "m1;");
        return x;
    }

    private static void undoesEach() {
        for (int call = 0; call < 6; call++) {
            QuietPairs x = doneAndKept();
            String before = Due.view(x);
            int known = x.count(7);
            int answer = call == 0 ? x.joins(2) : call == 1 ? x.leaves(0) : call == 2 ? x.drifts(0, 1, 6)
                : call == 3 ? x.strikes(0, 1, 3) : call == 4 ? x.trains() : x.fills(2);
            due.is("call " + call + " is not refused", answer >= 0 ? 1 : 0, 1);
            due.is("undo of call " + call, x.undo(), known);
            due.unchanged("undo of call " + call, before, x);
            due.is("trains: STRUCK came back by undo (4 in beat 0 alone)", x.trains(), 2);
            due.is("LEARNT of 0 for itself", x.pair(0, 0, 1), 3);
            due.is("LEARNT of 0 for 1", x.pair(0, 1, 1), 6);
        }
        QuietPairs x = doneAndKept();
        x.trains();
        x.tries(1, 1, 1);
        x.undo();
        due.is("TRIED is not undone", x.count(5), 2);
        due.is("THE TEXT is not undone", x.count(6), 3);
        due.is("IMAGES are not undone", x.back(0), 2);
        due.is("EAR is as the image has it", x.pair(0, 1, 0), 5);
    }

    /** A strike of 4 in beat 0 makes all LEARNT of its LINE one more; undone, it must not. */
    private static void undoesStrikes() {
        for (int j = 0; j < 4; j++) {
            QuietPairs x = Due.made("", 15);
            x.strikes(j, 0, 4);
            x.strikes(j, 3, 7);
            due.is("undo of the second strike", x.undo(), 5);
            due.is("trains with the first", x.trains(), 4);
            due.is("LEARNT of " + j + " for 0", x.pair(j, 0, 1), j == 0 ? 2 : 1);
            due.is("LEARNT of " + j + " for 3", x.pair(j, 3, 1), j == 3 ? 2 : 1);
            due.is("undo of trains", x.undo(), 5);
            due.is("undo of the first strike", x.undo(), 4);
            due.is("trains with none", x.trains(), 0);
        }
    }
}
