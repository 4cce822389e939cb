/** Edges that the document names in promises 12 to 19, and in parts 2 and 3 for them: one method a sentence. */
public final class EdgesSymbolsPowerTest {
    private static final Due due = new Due("EdgesSymbolsPowerTest");

    public static void main(String[] args) {
        pairs();
        lines();
        tones();
        levels();
        sendRefuses();
        sendsWhatIsNotOn();
        justOneWay();
        oneWayStill();
        learntForItselfNothing();
        makers();
        cleans();
        hurts();
        hurtsByWhatCannotBeMade();
        settledRefuses();
        steady();
        settles();
        goesRound();
        goesRoundBehindSome();
        due.ends();
    }

    private static boolean in(int v, int most) {
        return v >= 0 && v <= most;
    }

    private static void pairs() {
        due.says("Promise 12: EAR (what = 0), LEARNT (1), LEAK to j from i (2; 0 for itself). BAD");
        QuietPairs x = Due.made(Due.EARS + "g0 3 1;g3 0 9;g1 2 5;", 7);
        x.trains();
        for (int j = -1; j <= 4; j++) {
            for (int i = -1; i <= 4; i++) {
                boolean bad = !in(j, 3) || !in(i, 3);
                boolean learnt = j < 3 && i < 3;
                int leak = j == 0 && i == 3 ? 1 : j == 3 && i == 0 ? 9 : j == 1 && i == 2 ? 5 : 0;
                String of = "pair(" + j + ", " + i + ", ";
                due.is(of + "-1)", x.pair(j, i, -1), QuietPairs.BAD);
                due.is(of + "0)", x.pair(j, i, 0), bad ? QuietPairs.BAD : Due.earOf(j, i));
                due.is(of + "1)", x.pair(j, i, 1), bad ? QuietPairs.BAD : learnt ? Due.earOf(j, i) : i == j ? 1 : 0);
                due.is(of + "2)", x.pair(j, i, 2), bad ? QuietPairs.BAD : leak);
                due.is(of + "3)", x.pair(j, i, 3), QuietPairs.BAD);
            }
        }
        for (int wrong : Due.NO_LINES) {
            due.is("pair of " + wrong, x.pair(wrong, 0, 0), QuietPairs.BAD);
            due.is("pair for " + wrong, x.pair(0, wrong, 0), QuietPairs.BAD);
            due.is("pair, what = " + wrong, x.pair(0, 0, wrong), QuietPairs.BAD);
        }
    }

    private static void lines() {
        due.says("Promise 13: 0 whether it is ON (1, 0), 1 BUDGET, 2 all its POWER together, 3 LEVELS of all TONES together. BAD");
        QuietPairs x = Due.made("b0 0;b1 12;b2 1;n3 0 20;n3 1 20;n3 2 20;n0 2 1;", 11);
        x.fills(1);
        int[][] want = {{1, 0, 0, 1}, {1, 12, 12, 12}, {0, 1, 0, 0}, {1, 4, 4, 64}};
        for (int j = -1; j <= 4; j++) {
            for (int what = -1; what <= 4; what++) {
                boolean bad = !in(j, 3) || !in(what, 3);
                due.is("line(" + j + ", " + what + ")", x.line(j, what), bad ? QuietPairs.BAD : want[j][what]);
            }
        }
        for (int wrong : Due.NO_LINES) {
            due.is("line of " + wrong, x.line(wrong, 0), QuietPairs.BAD);
            due.is("line, what = " + wrong, x.line(0, wrong), QuietPairs.BAD);
        }
    }

    private static void tones() {
        due.says("Promise 14: 0 NOISE, 1 POWER, 2 LEVEL. BAD");
        QuietPairs x = Due.made("b0 9;b3 1;n0 0 2;n3 0 20;n3 1 19;n3 2 20;g1 0 2;g1 3 1;", 9);
        x.fills(1);
        int[][] noise = {{2, 0, 0}, {0, 0, 0}, {0, 0, 0}, {20, 19, 20}};
        int[][] power = {{2, 4, 3}, {0, 0, 0}, {0, 0, 0}, {0, 1, 0}};
        int[][] level = {{4, 4, 3}, {4, 9, 6}, {0, 0, 0}, {20, 20, 20}};
        for (int j = -1; j <= 4; j++) {
            for (int t = -1; t <= 3; t++) {
                boolean bad = !in(j, 3) || !in(t, 2);
                String of = "tone(" + j + ", " + t + ", ";
                due.is(of + "-1)", x.tone(j, t, -1), QuietPairs.BAD);
                due.is(of + "0)", x.tone(j, t, 0), bad ? QuietPairs.BAD : noise[j][t]);
                due.is(of + "1)", x.tone(j, t, 1), bad ? QuietPairs.BAD : power[j][t]);
                due.is(of + "2)", x.tone(j, t, 2), bad ? QuietPairs.BAD : level[j][t]);
                due.is(of + "3)", x.tone(j, t, 3), QuietPairs.BAD);
            }
        }
        for (int wrong : Due.NO_LINES) {
            due.is("tone of " + wrong, x.tone(wrong, 0, 0), QuietPairs.BAD);
            due.is("tone at " + wrong, x.tone(0, wrong, 0), QuietPairs.BAD);
            due.is("tone, what = " + wrong, x.tone(0, 0, wrong), QuietPairs.BAD);
        }
    }

    private static void levels() {
        due.says("Part 2: LEVEL of a LINE j: NOISE, and LEAK to j from each other LINE i that is ON times POWER of i there, and its own POWER there");
        QuietPairs x = Due.made("n0 0 9;n0 1 20;n0 2 20;n1 1 20;n1 2 20;n2 1 20;n2 2 20;n3 1 20;n3 2 20;"
            + "g0 1 9;g0 2 9;g0 3 9;b0 12;b1 12;b2 12;b3 12;", 15);
        x.fills(1);
        due.is("all POWER", x.count(3), 48);
        due.is("LEVEL, all that can be", x.tone(0, 0, 2), 9 + 12 + 3 * 9 * 12);
        due.is("LEVELS", x.line(0, 3), 345 + 20 + 20);
        x.leaves(2);
        due.is("LEVEL, 2 has left", x.tone(0, 0, 2), 9 + 12 + 2 * 9 * 12);
        x.leaves(0);
        due.is("LEVEL of one that is not ON", x.tone(0, 0, 2), 9 + 2 * 9 * 12);
        x.leaves(1);
        x.leaves(3);
        due.is("LEVEL, no LINE is ON", x.tone(0, 0, 2), 9);
    }

    /** LEARNT and EARS are as at first here, so x and GOT are s. */
    private static void sendRefuses() {
        due.says("Promise 15: BAD (s of one that is not ON not 0; a LINE i that is not ON, too)");
        int[] symbols = {-1, 0, 1, 30, 31, 32, 62, Integer.MIN_VALUE, Integer.MAX_VALUE};
        for (int on = 0; on < 16; on++) {
            for (int k = 0; k < 4; k++) {
                QuietPairs x = Due.made("", on);
                for (int v : symbols) {
                    int[] s = new int[4];
                    s[k] = v;
                    boolean bad = v < 0 || v > 30 || (v != 0 && (on >> k & 1) == 0);
                    for (int i = -1; i <= 4; i++) {
                        boolean badLine = bad || !in(i, 3) || (on >> i & 1) == 0;
                        int want = badLine ? QuietPairs.BAD : s[i];
                        String of = "send of " + v + " by " + k + " to " + i + ", " + on + " are ON, ";
                        due.is(of + "x", x.send(s[0], s[1], s[2], s[3], i, 0), want);
                        due.is(of + "GOT", x.send(s[0], s[1], s[2], s[3], i, 1), want);
                        due.is(of + "what = -1", x.send(s[0], s[1], s[2], s[3], i, -1), QuietPairs.BAD);
                        due.is(of + "what = 2", x.send(s[0], s[1], s[2], s[3], i, 2), QuietPairs.BAD);
                    }
                }
            }
        }
        QuietPairs y = Due.made("", 15);
        for (int wrong : Due.NO_LINES) {
            due.is("send to " + wrong, y.send(1, 2, 3, 4, wrong, 0), QuietPairs.BAD);
            due.is("send, what = " + wrong, y.send(1, 2, 3, 4, 0, wrong), QuietPairs.BAD);
        }
    }

    private static void sendsWhatIsNotOn() {
        due.says("Promise 15: SENT (s of each LINE; 0 of one that is not ON)");
        for (int on = 1; on < 16; on++) {
            QuietPairs x = Due.made(Due.EARS, on);
            x.trains();
            for (int j = 0; j < 4; j++) {
                x.drifts(j, j, 1);
            }
            int[] s = {30 * (on & 1), 29 * (on >> 1 & 1), 28 * (on >> 2 & 1), 27 * (on >> 3 & 1)};
            int[] made = new int[4];
            for (int i = 0; i < 4; i++) {
                int answer = x.send(s[0], s[1], s[2], s[3], i, 0);
                due.is("x of " + i + ", " + on + " are ON", answer == QuietPairs.BAD ? 1 : 0, 1 - (on >> i & 1));
                made[i] = Math.max(answer, 0);
            }
            for (int j = 0; j < 4; j++) {
                if ((on >> j & 1) == 1) {
                    int asLearnt = 0;
                    for (int i = 0; i < 4; i++) {
                        asLearnt += Due.earOf(j, i) * made[i];
                    }
                    due.is("LEARNT of " + j + " times x, " + on + " are ON", asLearnt % 31, Due.earOf(j, j) * s[j] % 31);
                    int got = asLearnt + (32 - Due.earOf(j, j)) * made[j];
                    due.is("GOT by " + j, x.send(s[0], s[1], s[2], s[3], j, 1) * Due.earOf(j, j) % 31, got % 31);
                }
            }
        }
    }

    private static void nothingMade(String of, QuietPairs x) {
        int on = x.count(0);
        for (int i = 0; i < 4; i++) {
            int want = (on >> i & 1) == 1 ? QuietPairs.NONE : QuietPairs.BAD;
            due.is(of + ": send to " + i, x.send(0, 0, 0, 0, i, 0), want);
            due.is(of + ": send to " + i, x.send(on & 1, on & 2, on & 4, on & 8, i, 0), want);
            due.is(of + ": GOT by " + i, x.send(on & 1, on & 2, on & 4, on & 8, i, 1), want);
            for (int j = 0; j < 4; j++) {
                boolean both = (on >> i & on >> j & 1) == 1;
                due.is(of + ": MAKER of " + i + " for " + j, x.maker(i, j), both ? QuietPairs.NONE : QuietPairs.BAD);
            }
        }
        due.is(of + ": send, BAD comes first", x.send(31, 0, 0, 0, 0, 0), QuietPairs.BAD);
        due.is(of + ": send, BAD comes first", x.send(0, 0, 0, 0, 0, 2), QuietPairs.BAD);
        due.is(of + ": clean", x.clean(), 0);
    }

    /** Two, three and four rows of which one comes of the others; LINES of it that leave make it well again. */
    private static void justOneWay() {
        due.says("Part 2: MADE: if there is just one way. Part 3: NONE, if nothing can be MADE; CLEAN: none");
        String[] texts = {
            "e0 1 1;e1 0 1;", "e2 3 5;e3 2 25;", "e0 3 2;e3 0 16;", "e0 1 1;e1 2 1;e2 0 30;", "e1 2 1;e2 3 1;e3 1 30;",
            "e0 1 1;e0 2 1;e0 3 1;e1 0 1;e1 2 1;e1 3 1;e2 0 1;e2 1 1;e2 3 1;e3 0 1;e3 1 1;e3 2 1;", "e0 1 1;e1 2 1;e2 3 1;e3 0 1;"};
        int[] on = {3, 12, 9, 7, 14, 15, 15};
        int[] fewer = {2, 4, 8, 3, 6, 8, 7};
        for (int k = 0; k < texts.length; k++) {
            QuietPairs x = Due.made(texts[k], on[k]);
            x.trains();
            nothingMade(texts[k], x);
            for (int line = 0; line < 4; line++) {
                if ((on[k] & ~fewer[k] & 1 << line) != 0) {
                    x.leaves(line);
                }
            }
            due.is("clean, when some have left", x.clean(), fewer[k]);
        }
    }

    /** With these EARS of a, b and c, what is left of b's row for b is 0 when that of a is taken off: there is one way still. */
    private static void oneWayStill() {
        due.says("Part 2: MADE: LEARNT of j for i times x of i, all i that are ON together, is LEARNT of j for itself times s of j");
        for (int n = 0; n < 64; n++) {
            int a = n / 16;
            int b = n / 4 % 4;
            int c = n % 4;
            if (a != b && b != c && a != c) {
                String text = "e" + a + " " + b + " 1;e" + b + " " + a + " 1;e" + b + " " + c + " 1;e" + c + " " + b + " 1;";
                madeAsLearnt(text, Due.made(text, 15));
                madeAsLearnt(text, Due.made(text, 1 << a | 1 << b | 1 << c));
            }
        }
    }

    private static void madeAsLearnt(String of, QuietPairs x) {
        int on = x.count(0);
        x.trains();
        due.is(of + ": clean", x.clean(), on);
        int[] s = {7 * (on & 1), 15 * (on >> 1 & 1), 30 * (on >> 2 & 1), 22 * (on >> 3 & 1)};
        int[] made = new int[4];
        for (int i = 0; i < 4; i++) {
            made[i] = (on >> i & 1) == 1 ? x.send(s[0], s[1], s[2], s[3], i, 0) : 0;
        }
        for (int j = 0; j < 4; j++) {
            if ((on >> j & 1) == 1) {
                int sum = 0;
                for (int i = 0; i < 4; i++) {
                    sum += x.pair(j, i, 1) * made[i];
                }
                due.is(of + ": row " + j, sum % 31, x.pair(j, j, 1) * s[j] % 31);
                due.is(of + ": GOT by " + j, x.send(s[0], s[1], s[2], s[3], j, 1), s[j]);
            }
        }
    }

    private static void learntForItselfNothing() {
        due.says("Part 2: (LEARNT for itself 0 of one that is ON: nothing can be MADE.)");
        for (int line = 0; line < 4; line++) {
            int other = (line + 1) % 4;
            QuietPairs x = Due.made("e" + line + " " + other + " 2;e" + other + " " + line + " 3;", 15);
            x.strikes(line, 0, 27);
            x.trains();
            due.is("LEARNT of " + line + " for itself", x.pair(line, line, 1), 0);
            nothingMade("LEARNT of " + line + " for itself 0", x);
            x.leaves(line);
            due.is("clean, " + line + " has left", x.clean(), 15 & ~(1 << line));
            due.is("send, " + line + " has left", x.send(0, 0, 0, 0, other, 0), 0);
            due.is("hurt by " + line, x.hurt(line), 15 & ~(1 << line));
        }
        QuietPairs alone = Due.made("", 2);
        alone.strikes(1, 0, 27);
        alone.trains();
        due.is("LEARNT of 1 for itself, alone", alone.pair(1, 1, 1), 0);
        nothingMade("LEARNT of 1 for itself 0, alone", alone);
    }

    private static void makers() {
        due.says("Promise 16: MAKER of LINE i for LINE j; BAD (one that is not ON, too)");
        for (int on = 0; on < 16; on++) {
            QuietPairs x = Due.made("", on);
            QuietPairs y = Due.made(Due.EARS, on);
            y.trains();
            for (int i = -1; i <= 4; i++) {
                for (int j = -1; j <= 4; j++) {
                    boolean bad = !in(i, 3) || !in(j, 3) || (on >> i & on >> j & 1) == 0;
                    String of = "maker(" + i + ", " + j + "), " + on + " are ON";
                    due.is(of, x.maker(i, j), bad ? QuietPairs.BAD : i == j ? 1 : 0);
                    int alike = y.send(j == 0 ? 1 : 0, j == 1 ? 1 : 0, j == 2 ? 1 : 0, j == 3 ? 1 : 0, i, 0);
                    due.is(of + ", trained", y.maker(i, j), bad ? QuietPairs.BAD : alike);
                }
            }
        }
        QuietPairs z = Due.made("", 15);
        for (int wrong : Due.NO_LINES) {
            due.is("maker of " + wrong, z.maker(wrong, 0), QuietPairs.BAD);
            due.is("maker for " + wrong, z.maker(0, wrong), QuietPairs.BAD);
        }
    }

    private static void cleans() {
        due.says("Promise 17: CLEAN LINES, as bits");
        for (int on = 0; on < 16; on++) {
            QuietPairs x = Due.made(Due.EARS, on);
            due.is("clean, not trained, " + on + " are ON", x.clean(), 0);
            due.is("trains", x.trains() > 0 ? 1 : 0, on > 0 ? 1 : 0);
            due.is("clean, trained", x.clean(), on);
            for (int at = 0; at < 16; at++) {
                boolean both = (on >> at / 4 & on >> at % 4 & 1) == 1;
                x.drifts(at / 4, at % 4, Due.earOf(at / 4, at % 4) - 1);
                due.is("clean, EAR " + at + " has DRIFTED, " + on + " are ON", x.clean(), both ? on & ~(1 << at / 4) : on);
                x.undo();
            }
        }
    }

    private static void hurts() {
        due.says("Promise 18: HURT by a LINE, as bits. BAD; STATE: it is ON");
        for (int on = 0; on < 16; on++) {
            QuietPairs x = Due.made(Due.EARS, 15);
            x.trains();
            for (int line = 0; line < 4; line++) {
                if ((on >> line & 1) == 0) {
                    x.leaves(line);
                }
            }
            for (int wrong : Due.NO_LINES) {
                due.is("hurt(" + wrong + ")", x.hurt(wrong), QuietPairs.BAD);
            }
            for (int line = 0; line < 4; line++) {
                boolean isOn = (on >> line & 1) == 1;
                due.is("hurt(" + line + "), trained", x.hurt(line), isOn ? QuietPairs.STATE : 0);
                int listener = Integer.numberOfTrailingZeros(on & ~(1 << line));
                if (!isOn && listener < 4) {
                    x.drifts(listener, line, 1);
                    due.is("hurt(" + line + "), " + listener + " hears it otherwise", x.hurt(line), 1 << listener);
                    x.drifts(listener, listener, 1);
                    due.is("hurt(" + line + "), " + listener + " is not CLEAN now", x.hurt(line), 0);
                    x.undo();
                    x.undo();
                    x.drifts(line, listener, 1);
                    due.is("hurt(" + line + "), it hears otherwise itself", x.hurt(line), 0);
                    x.undo();
                }
            }
            due.is("LINES that are ON", x.count(0), on);
        }
    }

    private static void hurtsByWhatCannotBeMade() {
        due.says("Part 3: HURT: those LINES that are CLEAN now and would not be, were it ON besides");
        QuietPairs x = Due.made("e0 1 1;e1 0 1;", 3);
        x.trains();
        due.is("hurt(2), nothing can be MADE now", x.hurt(2), 0);
        x.leaves(1);
        x.joins(3);
        due.is("clean", x.clean(), 9);
        due.is("hurt(1), nothing could be MADE then", x.hurt(1), 9);
        due.is("hurt(2)", x.hurt(2), 0);
        x.drifts(3, 3, 2);
        due.is("hurt(1), 3 is not CLEAN now", x.hurt(1), 1);
        QuietPairs none = new QuietPairs();
        for (int line = 0; line < 4; line++) {
            due.is("hurt(" + line + "), no LINE is ON", none.hurt(line), 0);
        }
    }

    private static void settledRefuses() {
        due.says("Promise 19: SETTLED (what = 0), PERIOD (1); NONE. BAD");
        QuietPairs x = Due.made("", 15);
        int[] bad = {-1, 2, 3, 32, 256, Integer.MIN_VALUE, Integer.MAX_VALUE};
        for (int what : bad) {
            due.is("settled(" + what + ")", x.settled(what), QuietPairs.BAD);
        }
        due.is("settled(0)", x.settled(0), 1);
        due.is("settled(1)", x.settled(1), QuietPairs.NONE);
    }

    private static void is(String of, QuietPairs x, int settled, int period) {
        due.is("settled(0) of " + of, x.settled(0), settled);
        due.is("settled(1) of " + of, x.settled(1), period);
        due.is("count(4) of " + of, x.count(4), settled == 0 ? 1 : 0);
    }

    private static void steady() {
        due.says("Part 3: STEADY: a ROUND would change nothing");
        for (int at = 0; at < 12; at++) {
            QuietPairs x = Due.made(Due.oneUnitAt(at / 3, at % 3), 1 << at / 3);
            is("one unit, to be laid at " + at, x, 1, QuietPairs.NONE);
            x.fills(1);
            is("one unit, laid at " + at, x, 0, QuietPairs.NONE);
        }
        QuietPairs y = Due.made("n0 0 7;n0 2 7;b0 9;g0 2 1;b1 8;n1 1 20;n1 2 20;b2 1;", 7);
        is("one unit that goes from TONE 0 to TONE 2, beside eights", y, 2, QuietPairs.NONE);
        y.fills(1);
        is("the same, to be laid anew", y, 1, QuietPairs.NONE);
        due.is("POWER of 0 at 0", y.tone(0, 0, 1), 1);
        y.fills(1);
        is("the same, laid anew", y, 0, QuietPairs.NONE);
        due.is("POWER of 0 at 2", y.tone(0, 2, 1), 1);
    }

    private static void settles() {
        due.says("Part 3: SETTLED: after how many ROUNDS (0 to 60) it is STEADY; NONE: it is not by then");
        is("no LINE", new QuietPairs(), 0, QuietPairs.NONE);
        is("no BUDGET", Due.made("b0 0;b1 0;b2 0;b3 0;", 15), 0, QuietPairs.NONE);
        is("one unit", Due.made("b3 1;", 8), 1, QuietPairs.NONE);
        String after60 = "g0 1 2;g1 0 2;g1 2 2;g1 3 1;g2 0 1;g2 3 2;g3 0 1;b0 11;b1 8;b2 8;b3 6;";
        String after61 = "g0 1 1;g0 2 1;g0 3 1;g1 3 2;g2 0 2;g3 0 2;g3 2 2;b0 8;b1 9;b2 7;b3 7;";
        QuietPairs x = Due.made(after60, 15);
        QuietPairs y = Due.made(after61, 15);
        is("60 ahead", x, 60, QuietPairs.NONE);
        is("61 ahead", y, QuietPairs.NONE, QuietPairs.NONE);
        for (int left = 59; left >= 0; left--) {
            x.fills(1);
            y.fills(1);
            is(left + " ahead", x, left, QuietPairs.NONE);
            is(left + 1 + " ahead", y, left + 1, QuietPairs.NONE);
        }
    }

    private static void goesRound() {
        due.says("Part 3: PERIOD: the least p (1 to 60); NONE (also if it is SETTLED)");
        is("by 2", Due.made("g0 2 6;g1 0 5;g2 1 3;", 7), QuietPairs.NONE, 2);
        is("by 59", Due.made("g0 1 2;g1 2 2;g2 1 1;g2 3 2;g3 0 3;g3 1 2;b1 12;b2 11;b3 5;", 15), QuietPairs.NONE, 59);
        is("by 60", Due.made("g0 1 1;g0 3 1;g1 3 2;g3 0 1;b0 12;b1 12;b3 11;n3 0 3;m8;", 15), QuietPairs.NONE, 60);
        is("by 61", Due.made("g0 1 1;g0 2 1;g1 2 1;g2 3 1;g3 0 1;b0 9;b2 9;b3 6;n0 1 4;", 15), QuietPairs.NONE, QuietPairs.NONE);
        is("by 62", Due.made("g0 1 1;g0 2 1;g1 2 1;g2 3 1;g3 0 1;b0 7;b1 1;b2 8;b3 7;", 15), QuietPairs.NONE, QuietPairs.NONE);
    }

    private static void goesRoundBehindSome() {
        due.says("Part 3: behind some r (0 to 60) ROUNDS, all POWER is as it is p ROUNDS later");
        QuietPairs x = Due.made("g1 2 1;g1 3 1;g2 3 2;g3 1 1;b1 7;b2 8;b3 12;", 15);
        is("by 5, behind 60", x, QuietPairs.NONE, 5);
        QuietPairs y = Due.made("g1 2 2;g2 3 2;g3 1 2;g3 2 1;b1 12;b2 12;b3 8;", 15);
        is("by 10, behind 61", y, QuietPairs.NONE, QuietPairs.NONE);
        y.fills(1);
        is("by 10, behind 60", y, QuietPairs.NONE, 10);
        for (int n = 0; n < 4; n++) {
            y.fills(20);
            is("by 10, later", y, QuietPairs.NONE, 10);
        }
        QuietPairs z = Due.made("g0 1 1;g0 2 1;g1 3 1;g2 1 1;g2 3 1;g3 0 1;g3 2 1;b0 8;b1 1;b2 10;b3 10;", 15);
        is("by 60, behind 58", z, QuietPairs.NONE, 60);
        QuietPairs w = Due.made("g0 1 1;g0 2 1;g1 2 1;g2 0 1;g2 3 1;g3 0 1;b0 12;b1 11;b2 11;b3 1;n0 2 1;n3 1 3;", 15);
        is("by 59, behind 60", w, QuietPairs.NONE, 59);
    }
}
