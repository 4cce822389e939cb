/** Edges that the document names in promises 20 to 26, and in part 3 for them: one method a sentence. */
public final class EdgesEarsImagesTest {
    private static final Due due = new Due("EdgesEarsImagesTest");

    public static void main(String[] args) {
        triesRefuses();
        triesFull();
        eachOfEightCounts();
        forgets();
        whichRefuses();
        whichOfThoseOn();
        whichByOneTry();
        onWhenAsked();
        triedByOneNotOn();
        askNothing();
        askOfTwo();
        asksLeastOfSeveral();
        asksWhenFull();
        keepsRefuses();
        backRefuses();
        backAndUndo();
        keepsAgain();
        imagesStay();
        keepsAllOfTwo();
        keepsPower();
        keepsNothingElse();
        countRefuses();
        counts();
        due.ends();
    }

    private static void triesRefuses() {
        due.says("Promise 20: LINE j, a set of LINES (0 .. 15), WELL (1) or not (0): how much there is. BAD");
        int[] badSets = {-1, 16, 17, 31, 32, 256, Integer.MIN_VALUE, Integer.MAX_VALUE};
        int[] badWell = {-1, 2, 3, 256, Integer.MIN_VALUE, Integer.MAX_VALUE};
        QuietPairs x = Due.made("", 15);
        for (int line : Due.NO_LINES) {
            due.is("tries of " + line, x.tries(line, 0, 0), QuietPairs.BAD);
        }
        for (int set : badSets) {
            due.is("tries of the set " + set, x.tries(0, set, 1), QuietPairs.BAD);
        }
        for (int well : badWell) {
            due.is("tries, well = " + well, x.tries(0, 1, well), QuietPairs.BAD);
        }
        due.is("how much there is", x.count(5), 0);
        due.is("WHICH", x.which(0), 16);
        for (int j = 0; j < 4; j++) {
            for (int set = 0; set < 16; set++) {
                due.is("tries(" + j + ", " + set + ", 1)", x.tries(j, set, 1), 1);
                due.is("tries(" + j + ", " + set + ", 0)", x.tries(j, set, 0), 2);
                x.forget();
            }
        }
        due.is("of a LINE that is not ON", new QuietPairs().tries(3, 15, 0), 1);
    }

    private static void triesFull() {
        due.says("Promise 20: FULL: 8. Part 3: TRIED (8 at most)");
        QuietPairs x = Due.made("", 15);
        for (int again = 0; again < 3; again++) {
            for (int n = 1; n <= 8; n++) {
                due.is("tries " + n, x.tries(0, 1, 1), n);
            }
            due.is("tries 9", x.tries(0, 1, 1), QuietPairs.FULL);
            due.is("tries 9, which would tell more", x.tries(1, 15, 0), QuietPairs.FULL);
            due.is("tries 9, BAD comes first", x.tries(4, 1, 1), QuietPairs.BAD);
            due.is("tries 9, BAD comes first", x.tries(0, 16, 1), QuietPairs.BAD);
            due.is("tries 9, BAD comes first", x.tries(0, 1, 2), QuietPairs.BAD);
            due.is("how much there is", x.count(5), 8);
            due.is("WHICH", x.which(0), 15);
            due.is("forget", x.forget(), 8);
        }
    }

    /** Eight tries, each WELL for two EARS, leave none; but for one of them, they leave its two. */
    private static void eachOfEightCounts() {
        due.says("Part 3: all that was TRIED would be so");
        for (int left = 0; left < 8; left++) {
            QuietPairs x = Due.made("", 15);
            for (int n = 0; n < 8; n++) {
                if (n != left) {
                    x.tries(n / 2, n % 2 == 0 ? 3 : 12, 1);
                }
            }
            due.is("how many, without try " + left, x.which(0), 2);
            due.is("the least, without try " + left, x.which(1), 2 * left);
            due.is("tries, the last", x.tries(left / 2, left % 2 == 0 ? 3 : 12, 1), 8);
            due.is("how many", x.which(0), 0);
            due.is("the least", x.which(1), QuietPairs.NONE);
        }
        for (int n = 0; n < 8; n++) {
            QuietPairs y = Due.made("", 15);
            for (int k = 0; k < 8; k++) {
                y.tries(2, k == n ? 8 : 15, 0);
            }
            due.is("how many, try " + n + " tells most", y.which(0), 1);
            due.is("the least, try " + n + " tells most", y.which(1), 11);
        }
    }

    private static void forgets() {
        due.says("Promise 21: Nothing is TRIED: how much was");
        QuietPairs x = Due.made("", 15);
        for (int n = 0; n <= 8; n++) {
            for (int k = 0; k < n; k++) {
                x.tries(k % 4, 15, 1);
            }
            due.is("forget of " + n, x.forget(), n);
            due.is("how much there is", x.count(5), 0);
            due.is("WHICH", x.which(0), 16);
            due.is("forget again", x.forget(), 0);
        }
    }

    private static void whichRefuses() {
        due.says("Promise 22: how many (what = 0), the least (1; NONE). BAD");
        int[] bad = {-1, 2, 3, 32, 256, Integer.MIN_VALUE, Integer.MAX_VALUE};
        QuietPairs x = Due.made("", 8);
        for (int what : bad) {
            due.is("which(" + what + ")", x.which(what), QuietPairs.BAD);
        }
        due.is("which(0)", x.which(0), 1);
        due.is("which(1)", x.which(1), 15);
        x.tries(3, 8, 1);
        due.is("which(0), none is left", x.which(0), 0);
        due.is("which(1), none is left", x.which(1), QuietPairs.NONE);
        for (int what : bad) {
            due.is("which(" + what + "), none is left", x.which(what), QuietPairs.BAD);
        }
    }

    private static void whichOfThoseOn() {
        due.says("Part 3: WHICH: just one EAR of a LINE j for a LINE i, both ON");
        for (int on = 0; on < 16; on++) {
            QuietPairs x = Due.made(Due.EARS, on);
            int lines = Integer.bitCount(on);
            due.is("how many, " + on + " are ON", x.which(0), lines * lines);
            int least = Integer.numberOfTrailingZeros(on);
            due.is("the least, " + on + " are ON", x.which(1), on == 0 ? QuietPairs.NONE : 5 * least);
        }
    }

    private static void whichByOneTry() {
        due.says("Part 3: what a LINE j gets is as LEARNT tells (WELL), or not");
        for (int j = 0; j < 4; j++) {
            for (int set = 0; set < 16; set++) {
                QuietPairs x = Due.made("", 15);
                x.tries(j, set, 1);
                due.is("how many, WELL of " + j + " by " + set, x.which(0), 16 - Integer.bitCount(set));
                int leastWell = j > 0 ? 0 : set == 15 ? 4 : Integer.numberOfTrailingZeros(~set);
                due.is("the least, WELL of " + j + " by " + set, x.which(1), leastWell);
                x.forget();
                x.tries(j, set, 0);
                due.is("how many, not WELL of " + j + " by " + set, x.which(0), Integer.bitCount(set));
                int least = set == 0 ? QuietPairs.NONE : 4 * j + Integer.numberOfTrailingZeros(set);
                due.is("the least, not WELL of " + j + " by " + set, x.which(1), least);
            }
        }
    }

    private static void onWhenAsked() {
        due.says("Part 3: (of LINES that are ON when WHICH, ASK are asked; others of it are silent)");
        QuietPairs x = new QuietPairs();
        x.tries(1, 14, 0);
        due.is("how many, no LINE is ON", x.which(0), 0);
        due.is("ask, no LINE is ON", x.ask(), QuietPairs.NONE);
        x.joins(1);
        due.is("how many, 1", x.which(0), 1);
        due.is("the least, 1", x.which(1), 5);
        x.joins(3);
        due.is("how many, 1 and 3", x.which(0), 2);
        due.is("ask, 1 and 3", x.ask(), 16 + 2);
        x.joins(0);
        due.is("how many, 0, 1 and 3", x.which(0), 2);
        x.joins(2);
        due.is("how many, all", x.which(0), 3);
        due.is("the least, all", x.which(1), 5);
        x.leaves(1);
        x.joins(1);
        due.is("how many, 1 has left and joined", x.which(0), 3);
        x.undo();
        x.undo();
        x.undo();
        x.undo();
        due.is("how many, UNDONE to 1 and 3", x.which(0), 2);
        due.is("TRIED is not UNDONE", x.count(5), 1);
    }

    /** With one EAR of LINES that are ON otherwise, a LINE that is not ON gets what LEARNT tells. */
    private static void triedByOneNotOn() {
        due.says("Part 3: all others are as LEARNT");
        for (int j = 0; j < 4; j++) {
            QuietPairs x = Due.made("", 15 & ~(1 << j));
            x.tries(j, 15, 1);
            due.is("how many, " + j + " not ON and WELL", x.which(0), 9);
            x.tries(j, 15, 0);
            due.is("how many, " + j + " not ON and not WELL", x.which(0), 0);
            due.is("ask", x.ask(), QuietPairs.NONE);
            QuietPairs y = Due.made("", 15);
            y.tries(j, 15, 0);
            y.tries((j + 1) % 4, 15, 0);
            due.is("how many, two are not WELL", y.which(0), 0);
        }
    }

    private static void askNothing() {
        due.says("Promise 23: ASK; NONE. Part 3: NONE (one can be at most)");
        for (int line = 0; line < 4; line++) {
            QuietPairs x = Due.made("", 1 << line);
            due.is("ask, one EAR", x.ask(), QuietPairs.NONE);
            x.tries(line, 15, 1);
            due.is("ask, no EAR", x.ask(), QuietPairs.NONE);
        }
        for (int ear = 0; ear < 16; ear++) {
            QuietPairs x = Due.made("", 15);
            x.tries(ear / 4, 1 << ear % 4, 0);
            due.is("which, EAR " + ear, x.which(1), ear);
            due.is("ask, EAR " + ear + " alone", x.ask(), QuietPairs.NONE);
            x.tries(ear / 4, 1 << ear % 4, 1);
            due.is("ask, not even EAR " + ear, x.ask(), QuietPairs.NONE);
        }
    }

    private static void askOfTwo() {
        due.says("Part 3: the greater of the two numbers of these EARS (WELL, not) is least");
        for (int a = 0; a < 4; a++) {
            for (int b = a + 1; b < 4; b++) {
                for (int j = 0; j < 4; j++) {
                    QuietPairs x = Due.made("", 15);
                    x.tries(j, 1 << a | 1 << b, 0);
                    due.is("ask, EARS of " + j + " for " + a + " and " + b, x.ask(), 16 * j + (1 << a));
                    x.leaves(a);
                    due.is("ask, " + a + " has left", x.ask(), QuietPairs.NONE);
                }
            }
        }
        QuietPairs y = Due.made("", 15);
        y.tries(1, 7, 0);
        due.is("ask, three EARS: two and one", y.ask(), 16 + 1);
        y.forget();
        y.tries(3, 15, 0);
        due.is("ask, four EARS: two and two", y.ask(), 48 + 3);
    }

    private static void asksLeastOfSeveral() {
        due.says("Part 3: of several the least j, then the least set (as bits): 16 times j and the set");
        int[] want = {
            QuietPairs.NONE, QuietPairs.NONE, QuietPairs.NONE, 3, QuietPairs.NONE, 5, 16 + 6, 7,
            QuietPairs.NONE, 9, 16 + 10, 11, 32 + 12, 13, 16 + 14, 15};
        for (int on = 0; on < 16; on++) {
            due.is("ask, " + on + " are ON", Due.made("", on).ask(), want[on]);
        }
        QuietPairs x = Due.made("", 15);
        x.tries(0, 7, 1);
        x.tries(1, 11, 1);
        x.tries(2, 13, 1);
        x.tries(3, 14, 1);
        due.is("ask, one EAR each", x.ask(), 8);
        x.tries(0, 8, 1);
        due.is("ask, one EAR of 1, 2, 3 each", x.ask(), 16 + 4);
        x.tries(1, 4, 1);
        due.is("ask, one EAR of 2, 3 each", x.ask(), 32 + 2);
        due.is("ask changes nothing", x.ask(), 32 + 2);
        QuietPairs y = Due.made("", 15);
        y.tries(0, 14, 1);
        y.tries(1, 14, 1);
        y.tries(2, 15, 1);
        y.tries(3, 3, 1);
        due.is("ask, one EAR of 0 and 1 each, two of 3", y.ask(), 48 + 12);
        QuietPairs z = Due.made("", 15);
        z.tries(0, 12, 1);
        z.tries(1, 14, 1);
        z.tries(2, 14, 1);
        due.is("ask, two EARS of 0, one of 1 and 2 each, four of 3", z.ask(), 48 + 15);
    }

    private static void asksWhenFull() {
        due.says("Promise 23: ASK, when no more can be TRIED");
        QuietPairs x = Due.made("", 15);
        for (int n = 0; n < 8; n++) {
            x.tries(0, 15, 1);
        }
        due.is("ask, FULL", x.ask(), 16 + 15);
        due.is("which, FULL", x.which(0), 12);
        due.is("TRIED", x.count(5), 8);
    }

    private static void keepsRefuses() {
        due.says("Promise 24: An IMAGE is kept: how many LINES are ON. BAD");
        int[] bad = {-1, 2, 3, 32, 33, 256, Integer.MIN_VALUE, Integer.MAX_VALUE};
        for (int on = 0; on < 16; on++) {
            QuietPairs x = Due.made("", on);
            for (int image : bad) {
                due.is("keep(" + image + ")", x.keep(image), QuietPairs.BAD);
            }
            due.is("back(0)", x.back(0), QuietPairs.STATE);
            due.is("back(1)", x.back(1), QuietPairs.STATE);
            due.is("keep(0), " + on + " are ON", x.keep(0), Integer.bitCount(on));
            due.is("keep(1), " + on + " are ON", x.keep(1), Integer.bitCount(on));
        }
    }

    private static void backRefuses() {
        due.says("Promise 25: All of that becomes as an IMAGE has it: how many LINES are ON. BAD; STATE: none was kept");
        int[] bad = {-1, 2, 3, 32, 33, 256, Integer.MIN_VALUE, Integer.MAX_VALUE};
        for (int kept = 0; kept < 4; kept++) {
            QuietPairs x = Due.made("", 5);
            for (int image = 0; image < 2; image++) {
                if ((kept >> image & 1) == 1) {
                    x.keep(image);
                }
            }
            x.joins(1);
            for (int image : bad) {
                due.is("back(" + image + ")", x.back(image), QuietPairs.BAD);
            }
            for (int image = 0; image < 2; image++) {
                boolean none = (kept >> image & 1) == 0;
                int known = x.count(7);
                due.is("back(" + image + "), kept are " + kept, x.back(image), none ? QuietPairs.STATE : 2);
                due.is("what may be UNDONE", x.count(7), none ? known : 0);
                due.is("LINES that are ON", x.count(0), none && known > 0 ? 7 : 5);
            }
        }
    }

    private static void backAndUndo() {
        due.says("Part 3: (nothing can be UNDONE behind back())");
        for (int done = 0; done <= 8; done++) {
            QuietPairs x = new QuietPairs();
            for (int n = 1; n <= done; n++) {
                x.drifts(0, 1, n);
            }
            x.keep(1);
            due.is("keep leaves what may be UNDONE", x.count(7), Math.min(done, 6));
            due.is("back", x.back(1), 0);
            due.is("what may be UNDONE", x.count(7), 0);
            due.is("undo", x.undo(), QuietPairs.STATE);
            due.is("EAR", x.pair(0, 1, 0), done);
            due.is("joins", x.joins(0), 1);
            due.is("undo of joins, behind back", x.undo(), 0);
            due.is("undo of no more", x.undo(), QuietPairs.STATE);
            due.is("EAR", x.pair(0, 1, 0), done);
        }
    }

    private static void keepsAgain() {
        due.says("Promise 24: kept again, an IMAGE is as kept last; the other one stays");
        QuietPairs x = Due.made("", 1);
        x.keep(0);
        x.joins(1);
        x.keep(1);
        x.joins(2);
        due.is("keep(0) again", x.keep(0), 3);
        x.joins(3);
        due.is("back(1)", x.back(1), 2);
        due.is("LINES that are ON", x.count(0), 3);
        due.is("back(0)", x.back(0), 3);
        due.is("LINES that are ON", x.count(0), 7);
        x.leaves(0);
        due.is("back(0) again", x.back(0), 3);
        due.is("LINES that are ON", x.count(0), 7);
        due.is("back(1) again", x.back(1), 2);
    }

    private static void imagesStay() {
        due.says("Part 3: IMAGES are gone by a text told, and by nothing else");
        QuietPairs x = Due.made("e0 1 5;", 3);
        x.keep(0);
        x.drifts(0, 1, 6);
        x.undo();
        x.undo();
        x.undo();
        x.forget();
        x.clear();
        x.type('x');
        due.is("tells, with a FAULT", x.tells(), -10);
        due.is("back(0)", x.back(0), 2);
        due.is("EAR", x.pair(0, 1, 0), 5);
        x.clear();
        due.is("tells of the empty text", x.tells(), 0);
        due.is("back(0) then", x.back(0), QuietPairs.STATE);
        x.keep(1);
        due.is("back(0), 1 was kept", x.back(0), QuietPairs.STATE);
    }

    /** Each part of what is kept, changed alone behind keep(), is back behind back(). */
    private static void keepsAllOfTwo() {
        due.says("Part 3: IMAGES 0, 1 keep all that 2 tells, and EARS");
        for (int image = 0; image < 2; image++) {
            QuietPairs x = Due.made(Due.EARS + "b0 12;b3 11;g0 3 2;", 9);
            x.trains();
            x.fills(1);
            x.drifts(3, 0, 0);
            x.strikes(0, 0, 4);
            x.strikes(3, 3, 8);
            String before = seen(x);
            due.is("keep(" + image + ")", x.keep(image), 2);
            x.joins(1);
            x.leaves(0);
            x.drifts(0, 0, 30);
            x.drifts(3, 0, 1);
            x.strikes(0, 0, 1);
            x.strikes(3, 3, 1);
            x.trains();
            x.fills(3);
            due.is("it is otherwise", seen(x).equals(before) ? 1 : 0, 0);
            due.is("back(" + image + ")", x.back(image), 2);
            due.is("it is as kept", seen(x), before);
            due.is("STRUCK of 0 in beat 0", x.strikes(0, 0, 1), 5);
            due.is("STRUCK of 3 in beat 3", x.strikes(3, 3, 1), 9);
            due.is("STRUCK of 3 in beat 0", x.strikes(3, 0, 1), 1);
            due.is("back(" + image + ") again", x.back(image), 2);
            due.is("STRUCK of 0 in beat 0, as kept", x.strikes(0, 0, 2), 6);
        }
    }

    private static void keepsPower() {
        due.says("Part 2: POWER is UNDONE, part 3: and kept");
        for (int at = 0; at < 12; at++) {
            int j = at / 3;
            QuietPairs x = Due.made(Due.oneUnitAt(j, at % 3), 1 << j);
            x.fills(1);
            x.keep(at % 2);
            x.leaves(j);
            due.is("POWER at " + at + ", it has left", x.tone(j, at % 3, 1), 0);
            x.undo();
            due.is("POWER at " + at + ", leaves() UNDONE", x.tone(j, at % 3, 1), 1);
            x.undo();
            due.is("POWER at " + at + ", fills() UNDONE", x.tone(j, at % 3, 1), 0);
            x.back(at % 2);
            due.is("POWER at " + at + ", as kept", x.tone(j, at % 3, 1), 1);
        }
    }

    /** ON, EARS, LEARNT, POWER. */
    private static String seen(QuietPairs x) {
        StringBuilder all = new StringBuilder().append(x.count(0));
        for (int at = 0; at < 16; at++) {
            all.append(' ').append(x.pair(at / 4, at % 4, 0)).append(' ').append(x.pair(at / 4, at % 4, 1));
        }
        for (int at = 0; at < 12; at++) {
            all.append(' ').append(x.tone(at / 3, at % 3, 1));
        }
        return all.toString();
    }

    private static void keepsNothingElse() {
        due.says("Part 3: nothing else");
        QuietPairs x = Due.made("", 15);
        x.tries(0, 3, 0);
        Due.types(x, "m");
        x.keep(0);
        x.keep(1);
        x.tries(0, 1, 1);
        Due.types(x, "3;");
        x.back(0);
        due.is("TRIED stays", x.count(5), 2);
        due.is("what was TRIED stays", x.which(1), 1);
        due.is("THE TEXT stays", x.count(6), 3);
        due.is("the other IMAGE stays", x.back(1), 4);
        due.is("THE TEXT is told", x.tells(), 1);
        due.is("MASK", x.count(2), 3);
    }

    private static void countRefuses() {
        due.says("Promise 26: count(0) to count(7). BAD");
        int[] bad = {-1, 8, 9, 16, 32, 256, Integer.MIN_VALUE, Integer.MAX_VALUE};
        QuietPairs x = Due.made("", 15);
        for (int what : bad) {
            due.is("count(" + what + ")", x.count(what), QuietPairs.BAD);
        }
        due.is("count(0)", x.count(0), 15);
        due.is("count(7)", x.count(7), 4);
    }

    private static void counts() {
        due.says("Promise 26: 0 LINES that are ON (bits), 1 LEARNT that are not as EARS, of LINES that are ON for such, 2 MASK, 3 all POWER");
        for (int on = 0; on < 16; on++) {
            QuietPairs x = Due.made(Due.EARS + "b0 12;b1 12;b2 12;b3 12;", on);
            int lines = Integer.bitCount(on);
            due.is("count(0)", x.count(0), on);
            due.is("count(1), not trained", x.count(1), lines * lines);
            due.is("count(2)", x.count(2), 12);
            due.is("count(3)", x.count(3), 0);
            due.is("count(4)", x.count(4), on == 0 ? 1 : 0);
            due.is("count(7)", x.count(7), lines);
            x.fills(1);
            due.is("count(3), filled", x.count(3), 12 * lines);
            due.is("count(4), filled", x.count(4), 1);
            x.trains();
            due.is("count(1), trained", x.count(1), 0);
            x.drifts(0, 3, 1);
            due.is("count(1), EAR of 0 for 3", x.count(1), on >> 3 & on & 1);
        }
        due.says("Promise 26: 5 TRIED, 6 letters of THE TEXT, 7 how many may be UNDONE");
        QuietPairs y = new QuietPairs();
        for (int n = 0; n <= 160; n++) {
            due.is("count(6)", y.count(6), n);
            y.type(' ');
        }
        due.is("count(6), FULL", y.count(6), 160);
        for (int n = 0; n <= 8; n++) {
            due.is("count(5)", y.count(5), n);
            y.tries(0, 0, 1);
        }
        due.is("count(5), FULL", y.count(5), 8);
        for (int n = 0; n <= 8; n++) {
            due.is("count(7)", y.count(7), Math.min(n, 6));
            y.strikes(0, 0, 1);
        }
        due.says("Part 1: MASK (1 to 12; 12 at first)");
        for (int mask = 1; mask <= 12; mask++) {
            QuietPairs x = Due.made("b0 12;m" + mask + ";", 1);
            x.fills(1);
            due.is("count(2)", x.count(2), mask);
            due.is("count(3), MASK " + mask, x.count(3), Math.min(12, 3 * mask));
        }
    }
}
