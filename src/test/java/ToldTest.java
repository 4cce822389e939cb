/** Promises 1 to 4: a new object, and what is told. */
public final class ToldTest {
    private static final Due due = new Due("ToldTest");

    public static void main(String[] args) {
        newObject();
        letters();
        clears();
        items();
        blanksAndOrder();
        tellsAllAnew();
        tellsAgainAndAgain();
        faults();
        faultChangesNothing();
        longestText();
        clearedLetters();
        due.ends();
    }

    private static void newObject() {
        QuietPairs x = new QuietPairs();
        for (int j = 0; j < 4; j++) {
            for (int i = 0; i < 4; i++) {
                due.is("new: EAR", x.pair(j, i, 0), i == j ? 1 : 0);
                due.is("new: LEARNT", x.pair(j, i, 1), i == j ? 1 : 0);
                due.is("new: LEAK", x.pair(j, i, 2), 0);
            }
            for (int t = 0; t < 3; t++) {
                due.is("new: NOISE", x.tone(j, t, 0), 0);
                due.is("new: POWER", x.tone(j, t, 1), 0);
                due.is("new: LEVEL", x.tone(j, t, 2), 0);
            }
            due.is("new: ON", x.line(j, 0), 0);
            due.is("new: BUDGET", x.line(j, 1), 4);
        }
        int[] counts = {0, 0, 12, 0, 1, 0, 0, 0};
        for (int what = 0; what < 8; what++) {
            due.is("new: count " + what, x.count(what), counts[what]);
        }
        due.is("new: back", x.back(0), QuietPairs.STATE);
        due.is("new: undo", x.undo(), QuietPairs.STATE);
    }

    private static void letters() {
        QuietPairs x = new QuietPairs();
        due.is("type(-1)", x.type(-1), QuietPairs.BAD);
        due.is("type(256)", x.type(256), QuietPairs.BAD);
        due.is("count(6) behind refused letters", x.count(6), 0);
        due.is("type(0)", x.type(0), 1);
        due.is("type(255)", x.type(255), 2);
        for (int n = 3; n <= 160; n++) {
            due.is("type of letter " + n, x.type(' '), n);
        }
        due.is("type of letter 161", x.type(' '), QuietPairs.FULL);
        due.is("type(256) into a full text", x.type(256), QuietPairs.BAD);
        due.is("count(6) of a full text", x.count(6), 160);
    }

    private static void clears() {
        QuietPairs x = new QuietPairs();
        due.is("clear of none", x.clear(), 0);
        Due.types(x, "m7;");
        due.is("clear", x.clear(), 3);
        due.is("clear again", x.clear(), 0);
        due.is("tells of the empty text", x.tells(), 0);
        due.is("MASK as at first", x.count(2), 12);
    }

    private static void items() {
        QuietPairs x = new QuietPairs();
        Due.types(x, "e0 1 30;e2 2 30;e3 3 1;e1 0 0;n3 2 20;n0 0 1;g3 0 9;g0 3 1;b0 0;b3 12;m1;");
        due.is("tells", x.tells(), 11);
        due.is("text is empty then", x.count(6), 0);
        due.is("e0 1 30", x.pair(0, 1, 0), 30);
        due.is("not EAR of 1 for 0", x.pair(1, 0, 0), 0);
        due.is("e2 2 30", x.pair(2, 2, 0), 30);
        due.is("LEARNT is as at first", x.pair(2, 2, 1), 1);
        due.is("n3 2 20", x.tone(3, 2, 0), 20);
        due.is("n0 0 1", x.tone(0, 0, 0), 1);
        due.is("g3 0 9", x.pair(3, 0, 2), 9);
        due.is("g0 3 1", x.pair(0, 3, 2), 1);
        due.is("b0 0", x.line(0, 1), 0);
        due.is("b1 as at first", x.line(1, 1), 4);
        due.is("b3 12", x.line(3, 1), 12);
        due.is("m1", x.count(2), 1);
    }

    private static void blanksAndOrder() {
        QuietPairs x = new QuietPairs();
        Due.types(x, "   ");
        due.is("tells of blanks", x.tells(), 0);
        Due.types(x, "  e  0   1  5  ;m3;  m 4 ; e0 1 6;  ");
        due.is("tells with blanks", x.tells(), 4);
        due.is("what is told last", x.pair(0, 1, 0), 6);
        due.is("MASK told last", x.count(2), 4);
    }

    private static void tellsAllAnew() {
        QuietPairs x = Due.made("e0 1 5;n0 0 3;g0 1 2;b0 7;m5;", 3);
        x.drifts(1, 0, 9);
        x.trains();
        x.fills(2);
        x.strikes(0, 0, 4);
        x.tries(0, 3, 0);
        x.keep(0);
        x.keep(1);
        Due.types(x, "b1 6;");
        due.is("tells anew", x.tells(), 1);
        QuietPairs fresh = new QuietPairs();
        Due.types(fresh, "b1 6;");
        fresh.tells();
        due.unchanged("tells, behind much that was done,", Due.view(fresh), x);
        due.is("undo behind tells", x.undo(), QuietPairs.STATE);
        due.is("back(0) behind tells", x.back(0), QuietPairs.STATE);
        due.is("back(1) behind tells", x.back(1), QuietPairs.STATE);
        due.is("forget behind tells", x.forget(), 0);
        x.joins(0);
        due.is("trains: what was STRUCK is gone", x.trains(), 0);
    }

    /** What an earlier text told, or the one ahead of that, is gone; by the empty text, too. */
    private static void tellsAgainAndAgain() {
        String[] texts = {"e3 0 7;n0 0 5;n3 2 6;g0 1 8;g3 2 9;b0 1;b3 9;m2;", "e2 1 4;n1 1 3;", "n1 1 0;g1 0 0;b2 5;", "", "m3;", ""};
        for (int last = 0; last < texts.length; last++) {
            QuietPairs x = new QuietPairs();
            for (int k = 0; k <= last; k++) {
                tellsBehindRounds(x, texts[k]);
            }
            due.unchanged("tells of '" + texts[last] + "' behind others", Due.view(Due.made(texts[last], 0)), x);
        }
    }

    private static void tellsBehindRounds(QuietPairs x, String text) {
        for (int line = 0; line < 4; line++) {
            x.joins(line);
        }
        x.fills(1);
        due.is("POWER of 0 at TONE 0 or 1", x.tone(0, 0, 1) + x.tone(0, 1, 1) > 0 ? 1 : 0, 1);
        Due.types(x, text);
        due.is("tells of '" + text + "'", x.tells(), text.length() - text.replace(";", "").length());
    }

    private static void fault(String text, int place) {
        QuietPairs x = new QuietPairs();
        Due.types(x, text);
        due.is("tells of '" + text + "'", x.tells(), -10 - place);
        due.is("letters stay of '" + text + "'", x.count(6), text.length());
    }

    private static void faults() {
        String[] texts = {
            "x", ";", "7;", "E0 1 5;", "e;", "e", "e ", "e0", "e0 ", "e0 1", "e0 1 5", "e0 1 5  ", "e4 0 1;", "e0 4 1;", "e0 1 31;",
            "e0 0 0;", "e0 0 31;", "e0 1 05;", "e0 1 09;", "e0 1 00;", "e00 1 5;", "e0 1 100;", "e0 1 5 5;", "e0 1 5e1 0 5;", "e0 1;",
            "n4 0 1;", "n0 3 1;", "n0 0 21;", "n0 0;", "g4 0 1;", "g0 4 1;", "g1 1 2;", "g0 1 10;", "g0 0 99;", "b4 1;", "b0 13;",
            "b0;", "m0;", "m13;", "m100;", "m;", "m1 1;", "m1;;", "m1;x", "m1; 5", "m1;m", "e01 5;", "m1,", "m1;\t", "ee0 1 5;",
            "e0 x 999;", "  m99;", "m123456789012345678901234567890;", "m4294967297;", "b0 1 ; m 2", "n0 0 x", "g2 2"};
        int[] places = {
            0, 0, 0, 0, 1, 1, 2, 2, 3, 4, 6, 8, 1, 3, 5,
            5, 5, 5, 5, 5, 1, 5, 7, 6, 4,
            1, 3, 5, 4, 1, 3, 3, 5, 3, 1, 3,
            2, 1, 1, 1, 1, 3, 3, 3, 4, 4, 1, 2, 3, 1,
            3, 3, 1, 1, 10, 5, 3};
        for (int k = 0; k < texts.length; k++) {
            fault(texts[k], places[k]);
        }
        fault("m1;" + (char) 0, 3);
        fault("m1;" + (char) 255, 3);
        fault("m1;" + (char) 160, 3);
        fault("m1;" + (char) 10, 3);
    }

    private static void faultChangesNothing() {
        QuietPairs x = Due.made("e0 1 5;g0 1 2;m5;", 3);
        x.fills(1);
        x.keep(1);
        x.tries(1, 1, 1);
        Due.types(x, "e0 1 7;m6;b0 1;m13;");
        String before = Due.view(x);
        due.is("tells with a fault", x.tells(), -26);
        due.unchanged("tells with a fault", before, x);
        due.is("back(1) is there", x.back(1), 2);
        Due.types(x, ";");
        due.is("the same fault", x.tells(), -26);
        x.clear();
        Due.types(x, "m6;");
        due.is("tells without it", x.tells(), 1);
        due.is("nothing of the text with the fault", x.pair(0, 1, 0), 0);
        due.is("nothing of the text with the fault", x.line(0, 1), 4);
    }

    private static void longestText() {
        QuietPairs x = new QuietPairs();
        for (int n = 0; n < 53; n++) {
            Due.types(x, "m2;");
        }
        due.is("the last letter", x.type('m'), 160);
        due.is("tells: it ends too early", x.tells(), -170);
        x.clear();
        for (int n = 0; n < 53; n++) {
            Due.types(x, "m2;");
        }
        due.is("tells: 53 items", x.tells(), 53);
        due.is("MASK", x.count(2), 2);
    }

    /** Letters of a text that was cleared or told are not read behind the end of the next one. */
    private static void clearedLetters() {
        QuietPairs x = new QuietPairs();
        Due.types(x, "m3;");
        x.clear();
        Due.types(x, "m3");
        due.is("tells of 'm3' where ; was", x.tells(), -12);
        x.clear();
        Due.types(x, "m10;m11;");
        due.is("tells", x.tells(), 2);
        Due.types(x, "m1");
        due.is("tells of 'm1' where 0; was", x.tells(), -12);
        Due.types(x, ";");
        due.is("tells of 'm1;'", x.tells(), 1);
        due.is("MASK", x.count(2), 1);
        for (int n = 0; n < 52; n++) {
            Due.types(x, "m2;");
        }
        Due.types(x, "  m2");
        due.is("tells of 160 letters, without the last ;", x.tells(), -170);
        due.is("MASK stays", x.count(2), 1);
    }
}
