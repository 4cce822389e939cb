import java.util.Random;

/** Many runs of calls, the same each time, on the program and on the model: all answers are the same. */
public final class AgainstModelTest {
    private static final int RUNS = 1500;
    /** An object's 512 calls, less those that look at all of it at the end, and a few that come three at once. */
    private static final int CALLS = 404;
    private static final int[] EDGES = {Integer.MIN_VALUE, -1, 0, 1, 2, 3, 4, 15, 16, 30, 31, 255, 256, Integer.MAX_VALUE};

    private static final Due due = new Due("AgainstModelTest");

    public static void main(String[] args) {
        for (int run = 0; run < RUNS; run++) {
            runs(run, new Random(run));
        }
        due.ends();
    }

    private static void runs(int run, Random r) {
        QuietPairs x = new QuietPairs();
        Model m = new Model();
        int calls = 0;
        while (calls < CALLS) {
            if (r.nextInt(90) == 0) {
                String text = r.nextInt(3) > 0 ? text(r) : spoilt(r, text(r));
                for (int k = 0; k < text.length() && calls < CALLS; k++) {
                    due.is(run + ": type", x.type(text.charAt(k)), m.type(text.charAt(k)));
                    calls++;
                }
                due.is(run + ": tells() of '" + text + "'", x.tells(), m.tells());
                calls++;
            } else {
                calls += calls(run, r, x, m);
            }
        }
        sees(run, x, m);
    }

    private static String text(Random r) {
        StringBuilder text = new StringBuilder();
        int items = r.nextInt(18);
        for (int k = 0; k < items; k++) {
            int j = r.nextInt(4);
            int i = r.nextInt(4);
            switch (r.nextInt(12)) {
                case 0: case 1: case 2: text.append(item(r, "e", j, i, i == j ? 1 + r.nextInt(30) : r.nextInt(31))); break;
                case 3: case 4: text.append(item(r, "n", j, r.nextInt(3), r.nextInt(21))); break;
                case 5: case 6: case 7: case 8: text.append(item(r, "g", j, j == i ? (j + 1) % 4 : i, r.nextInt(10))); break;
                case 9: case 10: text.append(item(r, "b", j, r.nextInt(13))); break;
                default: text.append(item(r, "m", 1 + r.nextInt(12))); break;
            }
        }
        return text.toString();
    }

    private static String item(Random r, String kind, int... numbers) {
        StringBuilder text = new StringBuilder(blanks(r)).append(kind);
        for (int k = 0; k < numbers.length; k++) {
            text.append(blanks(r)).append(k > 0 ? " " : "").append(numbers[k]);
        }
        return text.append(blanks(r)).append(';').append(blanks(r)).toString();
    }

    private static String blanks(Random r) {
        return r.nextInt(12) == 0 ? "  " : "";
    }

    /** One letter left out, put in or changed. */
    private static String spoilt(Random r, String text) {
        int at = r.nextInt(text.length() + 1);
        String others = "engbm;;0123456789  xE\t";
        String letter = "" + others.charAt(r.nextInt(others.length()));
        String behind = text.substring(Math.min(text.length(), at + r.nextInt(2)));
        return text.substring(0, at) + (r.nextInt(3) > 0 ? letter : "") + behind;
    }

    /** A number as a call takes it, seldom one that it does not. */
    private static int number(Random r, int least, int most) {
        if (r.nextInt(25) == 0) {
            return r.nextBoolean() ? EDGES[r.nextInt(EDGES.length)] : r.nextBoolean() ? least - 1 : most + 1;
        }
        return least + r.nextInt(most - least + 1);
    }

    /** Some calls of one kind: how many. */
    private static int calls(int run, Random r, QuietPairs x, Model m) {
        int a = number(r, 0, 3);
        int b = number(r, 0, 3);
        String of = run + ": ";
        switch (r.nextInt(30)) {
            case 0: case 1: due.is(of + "joins " + a, x.joins(a), m.joins(a)); break;
            case 2: due.is(of + "leaves " + a, x.leaves(a), m.leaves(a)); break;
            case 3: case 4: {
                int v = number(r, 0, r.nextBoolean() ? 30 : 2);
                due.is(of + "drifts " + a + " " + b + " " + v, x.drifts(a, b, v), m.drifts(a, b, v));
                break;
            }
            case 5: {
                int e = number(r, 1, 30);
                due.is(of + "strikes " + a + " " + b + " " + e, x.strikes(a, b, e), m.strikes(a, b, e));
                break;
            }
            case 6: case 7: due.is(of + "trains", x.trains(), m.trains()); break;
            case 8: case 9: {
                int n = number(r, 1, r.nextBoolean() ? 20 : 2);
                due.is(of + "fills " + n, x.fills(n), m.fills(n));
                break;
            }
            case 10: due.is(of + "undo", x.undo(), m.undo()); break;
            case 11: asItIs(of, r, x, m); return 3;
            case 12: case 13: sends(of, r, x, m); break;
            case 14: due.is(of + "maker " + a + " " + b, x.maker(a, b), m.maker(a, b)); break;
            case 15: case 16: due.is(of + "clean", x.clean(), m.clean()); break;
            case 17: case 18: due.is(of + "hurt " + a, x.hurt(a), m.hurt(a)); break;
            case 19: {
                int what = number(r, 0, 1);
                due.is(of + "settled " + what, x.settled(what), m.settled(what));
                break;
            }
            case 20: case 21: {
                int set = number(r, 0, 15);
                int well = number(r, 0, 1);
                due.is(of + "tries " + a + " " + set + " " + well, x.tries(a, set, well), m.tries(a, set, well));
                break;
            }
            case 22: if (r.nextInt(2) == 0) due.is(of + "forget", x.forget(), m.forget()); break;
            case 23: {
                int what = number(r, 0, 1);
                due.is(of + "which " + what, x.which(what), m.which(what));
                break;
            }
            case 24: due.is(of + "ask", x.ask(), m.ask()); break;
            case 25: {
                int image = number(r, 0, 1);
                due.is(of + "keep " + image, x.keep(image), m.keep(image));
                break;
            }
            case 26: {
                int image = number(r, 0, 1);
                due.is(of + "back " + image, x.back(image), m.back(image));
                break;
            }
            case 27: {
                int letter = number(r, 0, 255);
                due.is(of + "type " + letter, x.type(letter), m.type(letter));
                break;
            }
            case 28: due.is(of + "clear", x.clear(), m.clear()); break;
            default: {
                int what = number(r, 0, 7);
                due.is(of + "count " + what, x.count(what), m.count(what));
                break;
            }
        }
        return 1;
    }

    private static void asItIs(String of, Random r, QuietPairs x, Model m) {
        int j = number(r, 0, 3);
        int i = number(r, 0, 3);
        int t = number(r, 0, 2);
        int what = number(r, 0, 3);
        due.is(of + "pair " + j + " " + i + " " + what, x.pair(j, i, what), m.pair(j, i, what));
        due.is(of + "line " + j + " " + what, x.line(j, what), m.line(j, what));
        due.is(of + "tone " + j + " " + t + " " + what, x.tone(j, t, what), m.tone(j, t, what));
    }

    private static void sends(String of, Random r, QuietPairs x, Model m) {
        int on = m.count(0);
        int[] s = new int[4];
        for (int j = 0; j < 4; j++) {
            s[j] = (on >> j & 1) == 1 || r.nextInt(20) == 0 ? number(r, 0, 30) : 0;
        }
        int i = number(r, 0, 3);
        int what = number(r, 0, 1);
        due.is(of + "send " + s[0] + " " + s[1] + " " + s[2] + " " + s[3] + " " + i + " " + what,
            x.send(s[0], s[1], s[2], s[3], i, what), m.send(s[0], s[1], s[2], s[3], i, what));
    }

    private static void sees(int run, QuietPairs x, Model m) {
        for (int at = 0; at < 48; at++) {
            int j = at / 12;
            int i = at / 3 % 4;
            int what = at % 3;
            due.is(run + ": at the end pair " + j + " " + i + " " + what, x.pair(j, i, what), m.pair(j, i, what));
            due.is(run + ": at the end tone " + j + " " + i + " " + what, x.tone(j, i, what), m.tone(j, i, what));
        }
        for (int what = 0; what < 8; what++) {
            due.is(run + ": at the end count " + what, x.count(what), m.count(what));
        }
    }
}
