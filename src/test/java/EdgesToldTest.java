/** Edges that the document names in its part 1 and in promises 1 to 4: one method a sentence. */
public final class EdgesToldTest {
    private static final String[][] ITEMS = {
        {"e", "3", "0", "30", ";"}, {"n", "0", "2", "20", ";"}, {"g", "3", "0", "9", ";"}, {"b", "3", "12", ";"}, {"m", "12", ";"}};
    private static final String[] LETTERS = {"e", "n", "g", "b", "m"};
    private static final Due due = new Due("EdgesToldTest");

    /** Whether an object that was told a NUMBER shows it. */
    private interface Seen {
        boolean in(QuietPairs x, int v);
    }

    public static void main(String[] args) {
        symbolsBySymbols();
        atFirst();
        ears();
        noises();
        leaks();
        budgets();
        masks();
        eachItsOwnPlace();
        blanks();
        blanksNeeded();
        noItems();
        toldAgain();
        tokensThatCannotStand();
        otherLetters();
        numbersThatAreNone();
        firstFault();
        endsTooEarly();
        types();
        full();
        clears();
        tellsAnew();
        tellsAnewAgain();
        manyItems();
        theLastCall();
        due.ends();
    }

    private static QuietPairs typed(String text) {
        QuietPairs x = new QuietPairs();
        Due.types(x, text);
        return x;
    }

    private static void fault(String text, int place) {
        due.is("tells of '" + text + "'", typed(text).tells(), -10 - place);
    }

    private static void symbolsBySymbols() {
        due.says("Part 1: A by B (B not 0) is the SYMBOL that times B is A");
        for (int b = 1; b < 31; b++) {
            for (int a = 1; a < 31; a++) {
                QuietPairs x = Due.made("e0 0 " + b + ";", 1);
                x.trains();
                x.drifts(0, 0, a);
                int q = x.send(1, 0, 0, 0, 0, 1);
                due.is(a + " by " + b + " is a SYMBOL", q >= 0 && q <= 30 ? 1 : 0, 1);
                due.is(a + " by " + b + " times " + b, q * b % 31, a);
                due.is("x of one alone is its s, LEARNT " + b, x.send(a, 0, 0, 0, 0, 0), a);
            }
        }
    }

    private static void atFirst() {
        due.says("Promise 1: As at first");
        QuietPairs[] all = {new QuietPairs(), Due.made("", 0), Due.made("   ", 0)};
        for (QuietPairs x : all) {
            for (int at = 0; at < 16; at++) {
                int own = at / 4 == at % 4 ? 1 : 0;
                due.is("EAR " + at, x.pair(at / 4, at % 4, 0), own);
                due.is("LEARNT " + at, x.pair(at / 4, at % 4, 1), own);
                due.is("LEAK " + at, x.pair(at / 4, at % 4, 2), 0);
            }
            for (int at = 0; at < 12; at++) {
                due.is("NOISE " + at, x.tone(at / 3, at % 3, 0), 0);
                due.is("POWER " + at, x.tone(at / 3, at % 3, 1), 0);
            }
            for (int j = 0; j < 4; j++) {
                due.is("ON " + j, x.line(j, 0), 0);
                due.is("BUDGET " + j, x.line(j, 1), 4);
            }
            due.is("MASK", x.count(2), 12);
            due.is("TRIED", x.forget(), 0);
            due.is("letters", x.clear(), 0);
            due.is("undo", x.undo(), QuietPairs.STATE);
            due.is("back(0)", x.back(0), QuietPairs.STATE);
            due.is("back(1)", x.back(1), QuietPairs.STATE);
            for (int j = 0; j < 4; j++) {
                x.joins(j);
            }
            due.is("trains: nothing was STRUCK", x.trains(), 0);
        }
    }

    /** NUMBERS 0 to 130 in one place of an ITEM: told from least to most (but one), else FAULT is the place. */
    private static void place(String ahead, String behind, int least, int most, int butOne, Seen seen) {
        for (int v = 0; v <= 130; v++) {
            QuietPairs x = typed(ahead + v + behind);
            boolean may = v >= least && v <= most && v != butOne;
            due.is("tells of '" + ahead + v + behind + "'", x.tells(), may ? 1 : -10 - ahead.length());
            due.is("'" + ahead + v + behind + "' is seen", may && !seen.in(x, v) ? 0 : 1, 1);
        }
        fault(ahead + "-1" + behind, ahead.length());
        fault(ahead + "+1" + behind, ahead.length());
    }

    private static void ears() {
        due.says("Part 1: EAR of a LINE j for a LINE i: a SYMBOL (1 to 30, if j is i)");
        place("e", " 1 9;", 0, 3, -1, (x, v) -> x.pair(v, 1, 0) == 9);
        for (int at = 0; at < 16; at++) {
            int j = at / 4;
            int i = at % 4;
            place("e" + j + " ", " 9;", 0, 3, -1, (x, v) -> x.pair(j, v, 0) == 9);
            place("e" + j + " " + i + " ", ";", i == j ? 1 : 0, 30, -1, (x, v) -> x.pair(j, i, 0) == v);
        }
    }

    private static void noises() {
        due.says("Part 1: TONES 0 to 2. NOISE of a LINE at a TONE (0 to 20)");
        place("n", " 1 9;", 0, 3, -1, (x, v) -> x.tone(v, 1, 0) == 9);
        for (int at = 0; at < 12; at++) {
            int j = at / 3;
            int t = at % 3;
            place("n" + j + " ", " 9;", 0, 2, -1, (x, v) -> x.tone(j, v, 0) == 9);
            place("n" + j + " " + t + " ", ";", 0, 20, -1, (x, v) -> x.tone(j, t, 0) == v);
        }
    }

    private static void leaks() {
        due.says("Part 1: LEAK from LINE i to LINE j (not the same; 0 to 9)");
        for (int j = 0; j <= 130; j++) {
            int i = j == 0 ? 1 : 0;
            QuietPairs x = typed("g" + j + " " + i + " 9;");
            due.is("tells of a LEAK to " + j, x.tells(), j < 4 ? 1 : -11);
            due.is("it is seen", x.pair(j, i, 2), j < 4 ? 9 : QuietPairs.BAD);
        }
        for (int at = 0; at < 16; at++) {
            int j = at / 4;
            int i = at % 4;
            place("g" + j + " ", " 9;", 0, 3, j, (x, v) -> x.pair(j, v, 2) == 9);
            if (i != j) {
                place("g" + j + " " + i + " ", ";", 0, 9, -1, (x, v) -> x.pair(j, i, 2) == v);
            }
        }
    }

    private static void budgets() {
        due.says("Part 1: BUDGET of a LINE (0 to 12; 4 at first)");
        place("b", " 9;", 0, 3, -1, (x, v) -> x.line(v, 1) == 9);
        for (int at = 0; at < 4; at++) {
            int j = at;
            place("b" + j + " ", ";", 0, 12, -1, (x, v) -> x.line(j, 1) == v);
        }
    }

    private static void masks() {
        due.says("Part 1: MASK (1 to 12; 12 at first)");
        place("m", ";", 1, 12, -1, (x, v) -> x.count(2) == v);
    }

    private static void eachItsOwnPlace() {
        due.says("Part 1: e J I V (EAR of J for I) ; n J T V ; g J I V (LEAK to J from I) ; b J V");
        StringBuilder ears = new StringBuilder();
        StringBuilder noises = new StringBuilder();
        StringBuilder leaks = new StringBuilder();
        for (int at = 0; at < 16; at++) {
            int j = at / 4;
            int i = at % 4;
            ears.append('e').append(j).append(' ').append(i).append(' ').append(30 - at).append(';');
            leaks.append(i == j ? "b" + j + " " + (j + 8) : "g" + j + " " + i + " " + (at % 9 + 1)).append(';');
            noises.append(at >= 12 ? "" : "n" + at / 3 + " " + at % 3 + " " + (20 - at) + ";");
        }
        QuietPairs e = Due.made(ears.toString(), 0);
        QuietPairs n = Due.made(noises.toString(), 0);
        QuietPairs g = Due.made(leaks.toString(), 0);
        for (int at = 0; at < 16; at++) {
            due.is("EAR " + at, e.pair(at / 4, at % 4, 0), 30 - at);
            due.is("LEAK " + at, g.pair(at / 4, at % 4, 2), at / 4 == at % 4 ? 0 : at % 9 + 1);
            due.is("BUDGET " + at % 4, g.line(at % 4, 1), at % 4 + 8);
            due.is("NOISE " + at % 12, n.tone(at % 12 / 3, at % 3, 0), 20 - at % 12);
        }
    }

    /** An ITEM's TOKENS, with blanks where two NUMBERS meet, and more ahead of one TOKEN (or behind all). */
    private static String spaced(String[] tokens, int where, int more) {
        StringBuilder text = new StringBuilder();
        for (int k = 0; k <= tokens.length; k++) {
            text.append(k == where ? " ".repeat(more) : "");
            boolean meet = k > 1 && k < tokens.length - 1;
            text.append(meet ? " " : "").append(k < tokens.length ? tokens[k] : "");
        }
        return text.toString();
    }

    private static void blanks() {
        due.says("Part 1: blanks (32), any number, ahead of, between, behind TOKENS");
        for (String[] tokens : ITEMS) {
            String plain = Due.view(Due.made(spaced(tokens, 0, 0), 0));
            for (int where = 0; where <= tokens.length; where++) {
                int most = 160 - spaced(tokens, 0, 0).length();
                int[] numbers = {1, 2, 40, most};
                for (int more : numbers) {
                    QuietPairs x = typed(spaced(tokens, where, more));
                    due.is("tells of '" + spaced(tokens, where, more) + "'", x.tells(), 1);
                    due.is("'" + spaced(tokens, where, more) + "'", Due.view(x), plain);
                }
            }
        }
        int[] others = {0, 9, 10, 11, 12, 13, 31, 33, 133, 160};
        for (int other : others) {
            fault((char) other + "m1;", 0);
            fault("m" + (char) other + "1;", 1);
            fault("m1" + (char) other + ";", 2);
            fault("m1;" + (char) other, 3);
        }
    }

    private static void blanksNeeded() {
        due.says("Part 1: needed only between two NUMBERS");
        fault("e01 5;", 1);
        fault("e10 5;", 1);
        fault("e0 15;", 3);
        fault("e1 05;", 3);
        fault("n0 12;", 3);
        fault("m1 2;", 3);
        due.is("tells of 'm12;'", typed("m12;").tells(), 1);
        fault("n21 3;", 1);
        fault("g3 09;", 3);
        fault("b11;", 1);
        fault("b1;", 2);
        due.is("tells without a blank but there", typed("e0 1 5;n0 1 5;g0 1 5;b0 5;m5;e0 1 6;").tells(), 6);
    }

    private static void noItems() {
        due.says("Part 1: ITEMS (none, too)");
        int[] lengths = {0, 1, 2, 159, 160};
        for (int length : lengths) {
            QuietPairs x = typed(" ".repeat(length));
            due.is("letters", x.count(6), length);
            due.is("tells of " + length + " blanks", x.tells(), 0);
            due.is("letters then", x.count(6), 0);
        }
        fault(";", 0);
        fault("m1;;", 3);
        fault(" ;m1;", 1);
    }

    private static void toldAgain() {
        due.says("Part 1: What is told again counts as told last");
        QuietPairs x = typed("e0 1 5;e0 1 9;e2 2 7;e2 2 1;n3 2 20;n3 2 0;g0 3 9;g0 3 8;g0 3 0;b1 12;b1 4;b2 0;b2 1;m1;m2;m12;");
        due.is("tells", x.tells(), 16);
        due.is("EAR of 0 for 1", x.pair(0, 1, 0), 9);
        due.is("EAR of 2 for itself", x.pair(2, 2, 0), 1);
        due.is("NOISE of 3 at 2", x.tone(3, 2, 0), 0);
        due.is("LEAK to 0 from 3", x.pair(0, 3, 2), 0);
        due.is("BUDGET of 1", x.line(1, 1), 4);
        due.is("BUDGET of 2", x.line(2, 1), 1);
        due.is("MASK", x.count(2), 12);
    }

    private static void tokensThatCannotStand() {
        due.says("Part 1: FAULT: the place of the first letter of the first TOKEN that can't stand there");
        String[] wrong = {"e", "n", "g", "b", "m", ";", "0", "1", "12", "99"};
        for (String[] tokens : ITEMS) {
            StringBuilder ahead = new StringBuilder();
            for (int k = 0; k < tokens.length; k++) {
                for (String token : wrong) {
                    boolean number = token.charAt(0) <= '9';
                    boolean letter = !number && !token.equals(";");
                    boolean may = k == 0 ? letter : k == tokens.length - 1 ? token.equals(";") : number;
                    if (!may) {
                        String start = ahead + (number && k > 1 ? " " : "");
                        fault(start + token, start.length());
                        fault(start + token + " 1 ;", start.length());
                        fault("m1; " + start + "  " + token, start.length() + 6);
                    }
                }
                ahead.append(k > 1 && k < tokens.length - 1 ? " " : "").append(tokens[k]);
            }
        }
        due.says("Part 1: (an I of g that is its J, a NUMBER beyond what it may be, too)");
        for (int j = 0; j < 4; j++) {
            fault("g" + j + " " + j + " 0;", 3);
            fault("g" + j + " " + j, 3);
            fault("g " + j + "   " + j + "x", 6);
            due.is("e of the same is none", typed("e" + j + " " + j + " 2;").tells(), 1);
            due.is("n of the same is none", j == 3 ? 1 : typed("n" + j + " " + j + " 2;").tells(), 1);
            due.is("b of the same is none", typed("b" + j + " " + j + ";").tells(), 1);
        }
    }

    private static void otherLetters() {
        due.says("Part 1: of any other letter that TOKEN's");
        String text = "e1 0 12;";
        for (int letter = 0; letter < 256; letter++) {
            if (" ;engbm0123456789".indexOf(letter) < 0) {
                for (int at = 0; at <= text.length(); at++) {
                    fault(text.substring(0, at) + (char) letter + text.substring(at), at);
                }
                fault("" + (char) letter, 0);
            }
        }
    }

    private static void numbersThatAreNone() {
        due.says("Part 1: a NUMBER above 99 or with a 0 ahead of others, that TOKEN's");
        String[] none = {
            "100", "101", "110", "256", "257", "999", "1000", "65537", "2147483648", "4294967296", "4294967297", "4294967299",
            "18446744073709551617", "00", "01", "03", "09", "000", "001", "010", "0000000001", "012"};
        for (String[] tokens : ITEMS) {
            for (int k = 1; k < tokens.length - 1; k++) {
                for (String number : none) {
                    String[] spoilt = tokens.clone();
                    spoilt[k] = number;
                    int place = 1;
                    for (int n = 1; n < k; n++) {
                        place += tokens[n].length() + 1;
                    }
                    fault(spaced(spoilt, 0, 0), place);
                    fault(spaced(spoilt, k, 3), place + 3);
                }
            }
        }
        fault("m" + "1".repeat(159), 1);
        fault("m" + "0".repeat(159), 1);
        fault("1".repeat(160), 0);
    }

    private static void firstFault() {
        due.says("Part 1: the first");
        String[] wrong = {"e4 0 1;", "e0 0 0;", "n0 3 1;", "g1 1 2;", "b0 13;", "m0;", "x", "7;", "m01;", "m100;", ";", "b0 x;"};
        int[] places = {1, 5, 3, 3, 3, 1, 0, 0, 1, 1, 0, 3};
        for (int k = 0; k < wrong.length; k++) {
            for (String later : wrong) {
                fault(wrong[k] + later, places[k]);
                fault("e0 1 5; " + wrong[k] + " " + later, places[k] + 8);
            }
        }
    }

    private static void endsTooEarly() {
        due.says("Part 1: FAULT: the text's length, if it ends too early");
        for (String[] tokens : ITEMS) {
            StringBuilder text = new StringBuilder();
            for (int k = 0; k < tokens.length - 1; k++) {
                text.append(k > 1 ? " " : "").append(tokens[k]);
                for (int more = 0; more < 3; more++) {
                    fault(text + " ".repeat(more), text.length() + more);
                    fault("m1; " + text + " ".repeat(more), text.length() + more + 4);
                }
                fault(" ".repeat(160 - text.length()) + text, 160);
                fault(text + " ".repeat(160 - text.length()), 160);
            }
        }
    }

    private static void types() {
        due.says("Promise 2: A letter (0 .. 255) comes to THE TEXT: how many it has. BAD");
        QuietPairs x = new QuietPairs();
        int[] bad = {-1, 256, -256, 257, 304, 65536 + 'm', Integer.MIN_VALUE, Integer.MAX_VALUE};
        for (int letter : bad) {
            due.is("type(" + letter + ")", x.type(letter), QuietPairs.BAD);
        }
        due.is("letters", x.count(6), 0);
        for (int letter = 0; letter < 160; letter++) {
            due.is("type(" + letter + ")", x.type(letter), letter + 1);
        }
        due.is("clear", x.clear(), 160);
        for (int letter = 160; letter < 256; letter++) {
            due.is("type(" + letter + ")", x.type(letter), letter - 159);
        }
    }

    private static void full() {
        due.says("Promise 2: FULL: 160");
        QuietPairs x = typed(" ".repeat(157) + "m");
        due.is("letter 159", x.type('3'), 159);
        due.is("letter 160", x.type(';'), 160);
        due.is("letter 161", x.type(';'), QuietPairs.FULL);
        due.is("letter 161, BAD", x.type(256), QuietPairs.BAD);
        due.is("letter 161, BAD", x.type(-1), QuietPairs.BAD);
        due.is("letters", x.count(6), 160);
        due.is("tells of 160 letters", x.tells(), 1);
        due.is("MASK", x.count(2), 3);
        due.is("a letter then", x.type('x'), 1);
        due.is("clear", x.clear(), 1);
        for (int n = 1; n <= 160; n++) {
            due.is("letter " + n, x.type('x'), n);
        }
        due.is("letter 161", x.type('x'), QuietPairs.FULL);
        due.is("tells, full", x.tells(), -10);
        due.is("letter 161", x.type('x'), QuietPairs.FULL);
    }

    private static void clears() {
        due.says("Promise 3: THE TEXT is empty: how many letters it had");
        int[] lengths = {0, 1, 159, 160};
        for (int length : lengths) {
            QuietPairs x = typed("x".repeat(length));
            due.is("clear of " + length, x.clear(), length);
            due.is("letters", x.count(6), 0);
            due.is("clear again", x.clear(), 0);
            due.is("tells", x.tells(), 0);
            due.is("a letter", x.type('m'), 1);
        }
        QuietPairs y = Due.made("e0 1 5;m3;b0 9;", 5);
        y.tries(1, 1, 1);
        y.keep(0);
        y.fills(1);
        String before = Due.view(y);
        due.is("clear of none", y.clear(), 0);
        due.is("clear changes nothing else", Due.view(y), before);
        due.is("the IMAGE is there", y.back(0), 2);
    }

    private static void tellsAnew() {
        due.says("Part 3: (A text told: what it does not tell is as at first, all of 2 as at first, what was TRIED, IMAGES are gone, nothing can be UNDONE.)");
        String[] texts = {"", " ", "m12;", "b3 12;", "e3 3 30;"};
        for (String text : texts) {
            QuietPairs x = Due.made("e0 1 5;e3 2 7;n3 2 3;g0 1 2;g2 3 9;b0 7;b3 0;m5;", 15);
            x.trains();
            x.fills(2);
            x.strikes(0, 0, 4);
            x.strikes(3, 3, 4);
            x.drifts(1, 0, 9);
            x.tries(0, 3, 0);
            x.keep(0);
            x.keep(1);
            Due.types(x, text);
            due.is("tells of '" + text + "'", x.tells(), text.length() > 1 ? 1 : 0);
            due.is("all behind '" + text + "'", Due.view(x), Due.view(typedAndTold(text)));
            due.is("undo", x.undo(), QuietPairs.STATE);
            due.is("back(0)", x.back(0), QuietPairs.STATE);
            due.is("back(1)", x.back(1), QuietPairs.STATE);
            due.is("TRIED", x.forget(), 0);
            due.is("letters", x.clear(), 0);
            for (int j = 0; j < 4; j++) {
                due.is("joins", x.joins(j), j + 1);
            }
            due.is("trains: nothing is STRUCK", x.trains(), text.startsWith("e") ? 1 : 0);
        }
    }

    /** What the text ahead of the last one told is gone, too; so is POWER, wherever it lay. */
    private static void tellsAnewAgain() {
        due.says("Part 3: A text told: what it does not tell is as at first");
        String[] texts = {
            Due.EARS, "n0 0 1;n0 1 2;n0 2 3;n1 0 4;n1 1 5;n1 2 6;n2 0 7;n2 1 8;n2 2 9;n3 0 10;n3 1 11;n3 2 12;",
            "g0 1 1;g0 2 2;g0 3 3;g1 0 4;g1 2 5;g1 3 6;g2 0 7;g2 1 8;g2 3 9;g3 0 1;g3 1 2;g3 2 3;", "b0 0;b1 12;b2 5;b3 3;m1;"};
        for (String text : texts) {
            QuietPairs x = Due.made(text, 15);
            x.fills(1);
            due.is("tells of the empty text", x.tells(), 0);
            due.is("as at first", Due.view(x), Due.view(new QuietPairs()));
            due.is("tells of the empty text", x.tells(), 0);
            due.is("as at first", Due.view(x), Due.view(new QuietPairs()));
        }
        for (int at = 0; at < 12; at++) {
            QuietPairs x = Due.made(Due.oneUnitAt(at / 3, at % 3), 1 << at / 3);
            x.fills(1);
            due.is("POWER at " + at, x.tone(at / 3, at % 3, 1), 1);
            x.tells();
            due.is("POWER at " + at + " then", x.tone(at / 3, at % 3, 1), 0);
        }
    }

    private static QuietPairs typedAndTold(String text) {
        QuietPairs x = typed(text);
        x.tells();
        return x;
    }

    private static void manyItems() {
        due.says("Promise 4: THE TEXT tells all anew, and is empty then: how many ITEMS");
        for (int items = 0; items <= 53; items++) {
            QuietPairs x = typed("m1;".repeat(items));
            due.is("tells of " + items, x.tells(), items);
            due.is("letters then", x.count(6), 0);
            due.is("MASK", x.count(2), items == 0 ? 12 : 1);
            due.is("tells of the empty text", x.tells(), 0);
            due.is("MASK is as at first again", x.count(2), 12);
        }
        for (String letter : LETTERS) {
            fault(letter, 1);
        }
    }

    private static void theLastCall() {
        due.says("What it is: An object is used for at most 512 calls after it has been made");
        QuietPairs x = new QuietPairs();
        x.joins(0);
        for (int call = 2; call <= 511; call++) {
            int v = call % 30 + 1;
            due.is("call " + call, x.drifts(0, 1, v), call == 2 ? 0 : (call - 1) % 30 + 1);
        }
        due.is("call 512", x.undo(), 5);
        QuietPairs y = new QuietPairs();
        for (int call = 1; call <= 256; call++) {
            due.is("joins", y.joins(3), 1);
            due.is("leaves", y.leaves(3), 0);
        }
    }
}
