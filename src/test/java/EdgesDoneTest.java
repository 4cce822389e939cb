import java.util.ArrayList;
import java.util.List;

/** Edges that the document names in its part 2 and in promises 5 to 11: one method a sentence. */
public final class EdgesDoneTest {
    private static final int[][] MARKS = {{1, 1, 1, 1}, {1, 30, 1, 30}, {1, 1, 30, 30}, {1, 30, 30, 1}};
    private static final String GOES_ROUND_BY_61 = "g0 1 1;g0 2 1;g1 2 1;g2 3 1;g3 0 1;b0 9;b2 9;b3 6;n0 1 4;";
    private static final String SETTLED_AFTER_20 = "g0 1 1;g1 0 2;g1 2 2;g2 0 1;b1 6;b2 7;b3 9;";
    private static final String SETTLED_AFTER_21 = "g0 2 4;g2 3 2;g3 0 1;g3 2 1;b0 5;b1 12;b2 7;";
    private static final Due due = new Due("EdgesDoneTest");

    public static void main(String[] args) {
        joins();
        leaves();
        powerOfOneThatIsOff();
        drifts();
        strikes();
        struckTogether();
        struckNoMore();
        trains();
        trainsThoseOn();
        trainsWithNone();
        fills();
        fillsSoMany();
        fillsTillSteady();
        laysWhereLeast();
        laysBelowMask();
        laysLineByLine();
        undoesSix();
        undoesAndDoes();
        undoesOnlyWhatIsDone();
        due.ends();
    }

    private static void joins() {
        due.says("Promise 5: A LINE is ON: how many are. BAD; STATE: it is");
        for (int on = 0; on < 16; on++) {
            QuietPairs x = Due.made("", on);
            for (int line : Due.NO_LINES) {
                due.is("joins(" + line + ")", x.joins(line), QuietPairs.BAD);
            }
            due.is("LINES that are ON", x.count(0), on);
            for (int line = 0; line < 4; line++) {
                boolean was = (on >> line & 1) == 1;
                QuietPairs y = Due.made("", on);
                due.is("joins(" + line + ") of " + on, y.joins(line), was ? QuietPairs.STATE : Integer.bitCount(on) + 1);
                due.is("LINES that are ON", y.count(0), on | 1 << line);
                due.is("what may be UNDONE", y.count(7), Integer.bitCount(on | 1 << line));
                due.is("joins(" + line + ") again", y.joins(line), QuietPairs.STATE);
            }
        }
    }

    private static void leaves() {
        due.says("Promise 6: A LINE is not ON any more: how many are. BAD; STATE: it is not");
        for (int on = 0; on < 16; on++) {
            QuietPairs x = Due.made("", on);
            for (int line : Due.NO_LINES) {
                due.is("leaves(" + line + ")", x.leaves(line), QuietPairs.BAD);
            }
            due.is("LINES that are ON", x.count(0), on);
            for (int line = 0; line < 4; line++) {
                boolean was = (on >> line & 1) == 1;
                QuietPairs y = Due.made("", on);
                due.is("leaves(" + line + ") of " + on, y.leaves(line), was ? Integer.bitCount(on) - 1 : QuietPairs.STATE);
                due.is("LINES that are ON", y.count(0), on & ~(1 << line));
                due.is("what may be UNDONE", y.count(7), Integer.bitCount(on) + (was ? 1 : 0));
                due.is("leaves(" + line + ") again", y.leaves(line), QuietPairs.STATE);
            }
        }
    }

    private static void powerOfOneThatIsOff() {
        due.says("Part 2: OFF (its POWER is 0 then)");
        for (int line = 0; line < 4; line++) {
            QuietPairs x = Due.made("b0 9;b1 10;b2 11;b3 12;", 15);
            x.fills(1);
            x.leaves(line);
            for (int at = 0; at < 12; at++) {
                int units = at / 3 + 9;
                int laid = units / 3 + (at % 3 < units % 3 ? 1 : 0);
                due.is("POWER " + at + " when " + line + " has left", x.tone(at / 3, at % 3, 1), at / 3 == line ? 0 : laid);
            }
            x.joins(line);
            due.is("POWER when it has joined", x.line(line, 2), 0);
            due.is("all POWER", x.count(3), 42 - 9 - line);
        }
    }

    private static void drifts() {
        due.says("Promise 7: EAR of j for i is another one: what it was. BAD (0 for itself, too); STATE: it is that");
        int[] values = {-1, 0, 1, 2, 29, 30, 31, 32, 62, -31, Integer.MIN_VALUE, Integer.MAX_VALUE};
        for (int at = 0; at < 16; at++) {
            int j = at / 4;
            int i = at % 4;
            QuietPairs x = new QuietPairs();
            int was = i == j ? 1 : 0;
            for (int v : values) {
                boolean bad = v < (i == j ? 1 : 0) || v > 30;
                int want = bad ? QuietPairs.BAD : v == was ? QuietPairs.STATE : was;
                due.is("drifts(" + j + ", " + i + ", " + v + ")", x.drifts(j, i, v), want);
                was = bad ? was : v;
                due.is("EAR of " + j + " for " + i, x.pair(j, i, 0), was);
                due.is("again", x.drifts(j, i, v), bad ? QuietPairs.BAD : QuietPairs.STATE);
            }
            due.is("LEARNT of " + j + " for " + i, x.pair(j, i, 1), i == j ? 1 : 0);
            for (int other = 0; other < 16; other++) {
                int first = other / 4 == other % 4 ? 1 : 0;
                due.is("EAR " + other, x.pair(other / 4, other % 4, 0), other == at ? 30 : first);
            }
        }
        QuietPairs y = new QuietPairs();
        for (int line : Due.NO_LINES) {
            due.is("drifts of " + line, y.drifts(line, 0, 2), QuietPairs.BAD);
            due.is("drifts for " + line, y.drifts(0, line, 2), QuietPairs.BAD);
            due.is("drifts of and for " + line, y.drifts(line, line, 2), QuietPairs.BAD);
        }
        due.is("nothing is DONE", y.count(7), 0);
    }

    private static void strikes() {
        due.says("Promise 8: what LINE j gets in a beat (0 .. 3) is e (1 .. 30) more. BAD");
        QuietPairs x = Due.made("", 15);
        int[] bad = {0, -1, 31, 32, 62, -30, Integer.MIN_VALUE, Integer.MAX_VALUE};
        for (int line : Due.NO_LINES) {
            due.is("strikes of " + line, x.strikes(line, 0, 1), QuietPairs.BAD);
            due.is("strikes in beat " + line, x.strikes(0, line, 1), QuietPairs.BAD);
        }
        for (int e : bad) {
            due.is("strikes by " + e, x.strikes(0, 0, e), QuietPairs.BAD);
        }
        due.is("nothing is DONE", x.count(7), 4);
        due.is("trains: nothing was STRUCK", x.trains(), 0);
        for (int at = 0; at < 16; at++) {
            for (int e = 1; e <= 30; e++) {
                QuietPairs y = Due.made("", 15);
                due.is("strikes(" + at / 4 + ", " + at % 4 + ", " + e + ")", y.strikes(at / 4, at % 4, e), e);
                due.is("trains", y.trains(), 4);
                for (int other = 0; other < 16; other++) {
                    int more = 4 * y.pair(other / 4, other % 4, 1) + 31 * 4 - (other / 4 == other % 4 ? 4 : 0);
                    int want = other / 4 == at / 4 ? e * MARKS[other % 4][at % 4] % 31 : 0;
                    due.is("4 times what LEARNT " + other + " is more", more % 31, want);
                }
            }
        }
    }

    private static void struckTogether() {
        due.says("Promise 8: (of several all together): how much more, in all, as a SYMBOL");
        for (int a = 1; a <= 30; a++) {
            for (int b = 1; b <= 30; b++) {
                QuietPairs x = Due.made("", 2);
                due.is("strikes by " + a, x.strikes(1, 2, a), a);
                due.is("strikes by " + b + " besides", x.strikes(1, 2, b), (a + b) % 31);
                due.is("trains", x.trains(), a + b == 31 ? 0 : 1);
                due.is("4 times LEARNT", 4 * x.pair(1, 1, 1) % 31, (4 + a + b) % 31);
            }
        }
        QuietPairs y = new QuietPairs();
        for (int n = 1; n <= 64; n++) {
            due.is("strikes by 30, " + n + " times", y.strikes(3, 3, 30), n * 30 % 31);
        }
        due.is("another beat", y.strikes(3, 2, 1), 1);
        due.is("another LINE", y.strikes(2, 3, 1), 1);
    }

    private static void struckNoMore() {
        due.says("Part 2: What was STRUCK is no more then");
        for (int on = 1; on < 16; on++) {
            QuietPairs x = Due.made("", on);
            for (int at = 0; at < 16; at++) {
                x.strikes(at / 4, at % 4, at + 1);
            }
            x.trains();
            for (int at = 0; at < 16; at++) {
                due.is("struck anew, " + on + " are ON", x.strikes(at / 4, at % 4, 1), 1);
            }
        }
        QuietPairs y = new QuietPairs();
        y.strikes(2, 0, 4);
        due.is("trains, refused", y.trains(), QuietPairs.STATE);
        y.joins(2);
        due.is("trains: STRUCK ahead of joins, and of a refused call", y.trains(), 1);
        due.is("LEARNT", y.pair(2, 2, 1), 2);
        due.is("trains then", y.trains(), 1);
        due.is("LEARNT then", y.pair(2, 2, 1), 1);
    }

    private static void trains() {
        due.says("Promise 9: TRAINED: how many LEARNT are others then");
        QuietPairs x = Due.made(Due.EARS, 15);
        due.is("trains, all are others", x.trains(), 16);
        due.is("trains, none is", x.trains(), 0);
        x.drifts(3, 3, 1);
        due.is("trains, one is", x.trains(), 1);
        x.strikes(0, 0, 1);
        x.strikes(1, 1, 1);
        x.strikes(2, 2, 1);
        x.strikes(3, 3, 1);
        due.is("trains, all STRUCK", x.trains(), 16);
        due.is("trains, none STRUCK", x.trains(), 16);
        QuietPairs y = Due.made("e0 1 30;e0 2 0;e0 3 1;", 15);
        due.is("trains, two are others", y.trains(), 2);
        due.is("LEARNT 30", y.pair(0, 1, 1), 30);
        due.is("LEARNT 0", y.pair(0, 2, 1), 0);
    }

    private static void trainsThoseOn() {
        due.says("Part 2: (Those not ON: LEARNT of them, for them stay.)");
        for (int on = 1; on < 16; on++) {
            QuietPairs x = Due.made(Due.EARS, on);
            due.is("trains, " + on + " are ON", x.trains(), Integer.bitCount(on) * Integer.bitCount(on));
            for (int at = 0; at < 16; at++) {
                int j = at / 4;
                int i = at % 4;
                boolean both = (on >> j & on >> i & 1) == 1;
                due.is("LEARNT of " + j + " for " + i + ", " + on + " are ON", x.pair(j, i, 1), both ? Due.earOf(j, i) : i == j ? 1 : 0);
            }
        }
        for (int off = 0; off < 4; off++) {
            QuietPairs x = Due.made(Due.EARS, 15);
            x.trains();
            x.leaves(off);
            for (int j = 0; j < 4; j++) {
                x.drifts(j, j, 1);
            }
            due.is("trains, without " + off, x.trains(), 3);
            for (int at = 0; at < 16; at++) {
                boolean drifted = at / 4 == at % 4 && at / 4 != off;
                due.is("LEARNT " + at, x.pair(at / 4, at % 4, 1), drifted ? 1 : Due.earOf(at / 4, at % 4));
            }
        }
    }

    private static void trainsWithNone() {
        due.says("Promise 9: STATE: no LINE is ON");
        QuietPairs x = Due.made(Due.EARS, 0);
        due.is("trains", x.trains(), QuietPairs.STATE);
        x.joins(3);
        x.leaves(3);
        due.is("trains, one has left", x.trains(), QuietPairs.STATE);
        due.is("what may be UNDONE", x.count(7), 2);
        x.undo();
        due.is("trains, leaves() UNDONE", x.trains(), 1);
    }

    private static void fills() {
        due.says("Promise 10: n (1 .. 20) ROUNDS. BAD; STATE: no LINE is ON");
        int[] bad = {0, -1, 21, 22, 32, 60, 256, Integer.MIN_VALUE, Integer.MAX_VALUE};
        QuietPairs none = new QuietPairs();
        QuietPairs one = Due.made("", 8);
        for (int n : bad) {
            due.is("fills(" + n + "), no LINE is ON", none.fills(n), QuietPairs.BAD);
            due.is("fills(" + n + ")", one.fills(n), QuietPairs.BAD);
        }
        due.is("all POWER", one.count(3), 0);
        due.is("what may be UNDONE", one.count(7), 1);
        for (int n = 1; n <= 20; n++) {
            due.is("fills(" + n + "), no LINE is ON", none.fills(n), QuietPairs.STATE);
        }
        due.is("what may be UNDONE", none.count(7), 0);
        due.is("fills(1)", one.fills(1), 1);
        due.is("fills(20)", one.fills(20), 1);
        one.leaves(3);
        due.is("fills(1), it has left", one.fills(1), QuietPairs.STATE);
    }

    private static String powers(QuietPairs x) {
        StringBuilder all = new StringBuilder();
        for (int at = 0; at < 12; at++) {
            all.append(x.tone(at / 3, at % 3, 1)).append(at % 3 == 2 ? "/" : " ");
        }
        return all.toString();
    }

    /** These ROUNDS come round again only after 61 of them, so each number of them shows. */
    private static void fillsSoMany() {
        due.says("Promise 10: n ROUNDS");
        QuietPairs byOne = Due.made(GOES_ROUND_BY_61, 15);
        for (int n = 1; n <= 20; n++) {
            QuietPairs x = Due.made(GOES_ROUND_BY_61, 15);
            due.is("fills(1)", byOne.fills(1), 0);
            due.is("fills(" + n + ")", x.fills(n), 0);
            due.is("POWER behind fills(" + n + ")", powers(x), powers(byOne));
            due.is("what may be UNDONE", x.count(7), 5);
        }
    }

    private static void fillsTillSteady() {
        due.says("Promise 10: whether it is STEADY then (1, 0)");
        for (int n = 1; n <= 20; n++) {
            due.is("fills(" + n + ") of 20", Due.made(SETTLED_AFTER_20, 15).fills(n), n == 20 ? 1 : 0);
            due.is("fills(" + n + ") of 21", Due.made(SETTLED_AFTER_21, 15).fills(n), 0);
        }
        QuietPairs x = Due.made(SETTLED_AFTER_21, 15);
        x.fills(20);
        due.is("STEADY", x.count(4), 0);
        String before = powers(x);
        due.is("fills(1), the 21st", x.fills(1), 1);
        due.is("STEADY", x.count(4), 1);
        due.is("it did change", powers(x).equals(before) ? 1 : 0, 0);
        before = powers(x);
        due.is("fills(1), the 22nd", x.fills(1), 1);
        due.is("POWER", powers(x), before);
    }

    private static void laid(String text, String want) {
        QuietPairs x = Due.made(text, 1);
        x.fills(1);
        due.is("POWER of " + text, powers(x), want + "/0 0 0/0 0 0/0 0 0/");
    }

    private static void laysWhereLeast() {
        due.says("Part 2: each where LEVEL (as it is then) is least (of several the lowest TONE)");
        laid("b0 1;", "1 0 0");
        laid("b0 2;", "1 1 0");
        laid("b0 3;", "1 1 1");
        laid("b0 4;", "2 1 1");
        laid("b0 1;n0 0 1;", "0 1 0");
        laid("b0 1;n0 0 1;n0 1 1;", "0 0 1");
        laid("b0 1;n0 0 1;n0 1 1;n0 2 1;", "1 0 0");
        laid("b0 2;n0 0 1;n0 1 1;", "1 0 1");
        laid("b0 12;n0 1 10;n0 2 20;", "11 1 0");
        laid("b0 12;n0 1 11;n0 2 20;", "12 0 0");
        laid("b0 12;n0 0 12;n0 1 11;", "0 1 11");
        laid("b0 12;n0 0 11;n0 1 11;", "1 0 11");
        laid("b0 12;n0 0 12;n0 1 12;", "0 0 12");
        laid("b0 12;n0 0 10;n0 1 11;", "1 0 11");
        laid("b0 0;", "0 0 0");
    }

    private static void laysBelowMask() {
        due.says("Part 2: of TONES at which its POWER is less than MASK; what can't be laid is left out");
        laid("b0 12;m12;n0 0 20;n0 2 20;", "0 12 0");
        laid("b0 12;m11;n0 0 20;n0 2 20;", "1 11 0");
        laid("b0 12;m4;", "4 4 4");
        laid("b0 11;m4;", "4 4 3");
        laid("b0 12;m3;", "3 3 3");
        laid("b0 10;m3;", "3 3 3");
        laid("b0 9;m3;n0 0 20;", "3 3 3");
        laid("b0 8;m3;n0 0 20;", "2 3 3");
        laid("b0 12;m1;", "1 1 1");
        laid("b0 2;m1;n0 0 1;", "0 1 1");
        laid("b0 2;m1;n0 1 1;", "1 0 1");
        laid("b0 0;m1;", "0 0 0");
    }

    /** LINE 0 still hears what LINE 1 had; LINE 1 already hears what LINE 0 has now. */
    private static void laysLineByLine() {
        due.says("Part 2: each LINE that is ON, by its number: its POWER is taken away, then laid");
        QuietPairs x = Due.made("g0 1 9;g1 0 9;b0 1;b1 1;b2 1;g2 3 9;b3 1;", 15);
        x.fills(1);
        due.is("POWER, first", powers(x), "1 0 0/0 1 0/1 0 0/1 0 0/");
        x.fills(1);
        due.is("POWER, second", powers(x), "1 0 0/0 1 0/0 1 0/1 0 0/");
        QuietPairs y = Due.made("g0 1 9;g1 0 9;b0 1;b1 1;", 2);
        y.fills(1);
        due.is("POWER of 1 alone", powers(y), "0 0 0/1 0 0/0 0 0/0 0 0/");
        y.joins(0);
        y.fills(1);
        due.is("POWER, 0 has joined", powers(y), "0 1 0/1 0 0/0 0 0/0 0 0/");
        y.leaves(1);
        y.fills(1);
        due.is("POWER, 1 has left", powers(y), "1 0 0/0 0 0/0 0 0/0 0 0/");
    }

    private static void undoesSix() {
        due.says("Part 2: (6 are known, older ones are lost). Promise 11: how many more may be. STATE: none");
        for (int done = 0; done <= 14; done++) {
            QuietPairs x = new QuietPairs();
            for (int n = 1; n <= done; n++) {
                x.drifts(0, 1, n);
                due.is("what may be UNDONE", x.count(7), Math.min(n, 6));
            }
            int known = Math.min(done, 6);
            for (int n = 1; n <= known; n++) {
                due.is("undo " + n + " of " + done, x.undo(), known - n);
                due.is("EAR then", x.pair(0, 1, 0), done - n);
            }
            due.is("undo of none", x.undo(), QuietPairs.STATE);
            due.is("EAR then", x.pair(0, 1, 0), done - known);
            due.is("what may be UNDONE", x.count(7), 0);
        }
    }

    /** Does and undoes in turns, so that what is known goes round and round. */
    private static void undoesAndDoes() {
        due.says("Promise 11: UNDONE: the latest");
        List<Integer> past = new ArrayList<>();
        QuietPairs x = new QuietPairs();
        int ear = 0;
        for (int n = 0; n < 160; n++) {
            boolean undoes = n * n % 7 % 3 == 1 || n % 23 > 15;
            if (undoes) {
                int want = past.isEmpty() ? QuietPairs.STATE : past.size() - 1;
                due.is("undo, step " + n, x.undo(), want);
                ear = past.isEmpty() ? ear : past.remove(past.size() - 1);
            } else {
                int next = (ear + n % 29 + 1) % 31;
                due.is("drifts, step " + n, x.drifts(2, 3, next), ear);
                past.add(ear);
                ear = next;
                if (past.size() > 6) {
                    past.remove(0);
                }
            }
            due.is("EAR, step " + n, x.pair(2, 3, 0), ear);
            due.is("what may be UNDONE, step " + n, x.count(7), past.size());
        }
    }

    private static void undoesOnlyWhatIsDone() {
        due.says("Part 2: UNDONE: the latest joins(), leaves(), drifts(), strikes(), trains(), fills() that was not refused");
        QuietPairs x = Due.made(Due.EARS, 1);
        due.is("what may be UNDONE", x.count(7), 1);
        x.undo();
        due.is("undo is none of them", x.undo(), QuietPairs.STATE);
        x.tries(0, 1, 1);
        x.forget();
        x.keep(0);
        x.type('x');
        x.clear();
        x.clean();
        x.settled(0);
        due.is("nor are these", x.count(7), 0);
        due.is("joins", x.joins(0) + x.count(7), 1 + 1);
        due.is("drifts", x.drifts(0, 0, 1) + x.count(7), 29 + 2);
        due.is("strikes", x.strikes(0, 0, 4) + x.count(7), 4 + 3);
        due.is("trains", x.trains() + x.count(7), 1 + 4);
        due.is("fills", x.fills(1) + x.count(7), 1 + 5);
        due.is("leaves", x.leaves(0) + x.count(7), 6);
        due.is("undo of leaves", x.undo(), 5);
        due.is("ON, POWER", x.line(0, 0) * 100 + x.line(0, 2), 104);
        due.is("undo of fills", x.undo(), 4);
        due.is("POWER, LEARNT", x.line(0, 2) * 100 + x.pair(0, 0, 1), 2);
        due.is("undo of trains", x.undo(), 3);
        due.is("LEARNT", x.pair(0, 0, 1), 1);
        due.is("STRUCK again", x.strikes(0, 0, 1), 5);
        due.is("undo of strikes", x.undo(), 3);
        due.is("undo of strikes", x.undo(), 2);
        due.is("not STRUCK", x.strikes(0, 0, 1), 1);
        due.is("undo of strikes", x.undo(), 2);
        due.is("undo of drifts", x.undo(), 1);
        due.is("EAR", x.pair(0, 0, 0), 29);
        due.is("undo of joins", x.undo(), 0);
        due.is("ON", x.count(0), 0);
    }
}
