/** Promises 12 to 14: pair, line, tone. */
public final class AsItIsTest {
    private static final Due due = new Due("AsItIsTest");

    public static void main(String[] args) {
        pairs();
        linesAndTones();
        bad();
        due.ends();
    }

    private static void pairs() {
        QuietPairs x = Due.made("e0 1 5;e1 0 7;e2 2 9;g0 1 3;g1 0 4;g3 2 9;", 3);
        due.is("EAR of 0 for 1", x.pair(0, 1, 0), 5);
        due.is("EAR of 1 for 0", x.pair(1, 0, 0), 7);
        due.is("EAR of 2, not on, for itself", x.pair(2, 2, 0), 9);
        due.is("LEARNT of 0 for 1", x.pair(0, 1, 1), 0);
        due.is("LEAK to 0 from 1", x.pair(0, 1, 2), 3);
        due.is("LEAK to 1 from 0", x.pair(1, 0, 2), 4);
        due.is("LEAK to 3 from 2", x.pair(3, 2, 2), 9);
        due.is("LEAK to 2 from 3", x.pair(2, 3, 2), 0);
        for (int j = 0; j < 4; j++) {
            due.is("LEAK to itself", x.pair(j, j, 2), 0);
        }
        x.trains();
        due.is("LEARNT of 0 for 1", x.pair(0, 1, 1), 5);
        due.is("LEARNT of 2, not on", x.pair(2, 2, 1), 1);
        x.drifts(0, 1, 8);
        due.is("EAR of 0 for 1, drifted", x.pair(0, 1, 0), 8);
        due.is("LEARNT of 0 for 1, as it was", x.pair(0, 1, 1), 5);
    }

    private static void linesAndTones() {
        QuietPairs x = Due.made("n0 0 20;n0 1 3;n2 0 1;g0 1 2;g2 0 5;g2 1 9;b0 3;b1 12;m5;", 3);
        due.is("ON", x.line(0, 0), 1);
        due.is("not ON", x.line(2, 0), 0);
        due.is("BUDGET", x.line(1, 1), 12);
        due.is("LEVELS ahead", x.line(0, 3), 23);
        x.fills(1);
        int[] power = {0, 0, 3, 4, 4, 4};
        for (int at = 0; at < 6; at++) {
            due.is("POWER at " + at, x.tone(at / 3, at % 3, 1), power[at]);
        }
        due.is("NOISE", x.tone(0, 0, 0), 20);
        due.is("LEVEL", x.tone(0, 0, 2), 28);
        due.is("LEVEL", x.tone(0, 1, 2), 11);
        due.is("LEVEL with its own POWER", x.tone(0, 2, 2), 11);
        due.is("LEVELS", x.line(0, 3), 50);
        due.is("POWER of 0", x.line(0, 2), 3);
        due.is("POWER of 1", x.line(1, 2), 12);
        due.is("LEVEL of 2, not on, TONE 0", x.tone(2, 0, 2), 1 + 36);
        due.is("LEVEL of 2, not on, TONE 2", x.tone(2, 2, 2), 36 + 15);
        due.is("LEVELS of 2, not on", x.line(2, 3), 37 + 36 + 51);
        x.leaves(1);
        due.is("LEVEL of 2, when 1 has left", x.tone(2, 0, 2), 1);
        due.is("LEVELS of 0, when 1 has left", x.line(0, 3), 26);
    }

    private static void bad() {
        QuietPairs x = new QuietPairs();
        int[] lines = {Integer.MIN_VALUE, -1, 4, Integer.MAX_VALUE};
        for (int wrong : lines) {
            due.is("pair of " + wrong, x.pair(wrong, 0, 0), QuietPairs.BAD);
            due.is("pair for " + wrong, x.pair(0, wrong, 0), QuietPairs.BAD);
            due.is("pair, what " + wrong, x.pair(0, 0, wrong), QuietPairs.BAD);
            due.is("line " + wrong, x.line(wrong, 0), QuietPairs.BAD);
            due.is("line, what " + wrong, x.line(0, wrong), QuietPairs.BAD);
            due.is("tone of " + wrong, x.tone(wrong, 0, 0), QuietPairs.BAD);
            due.is("tone at " + wrong, x.tone(0, wrong, 0), QuietPairs.BAD);
            due.is("tone, what " + wrong, x.tone(0, 0, wrong), QuietPairs.BAD);
        }
        due.is("pair, what 3", x.pair(0, 0, 3), QuietPairs.BAD);
        due.is("tone at 3", x.tone(0, 3, 0), QuietPairs.BAD);
        due.is("tone, what 3", x.tone(0, 0, 3), QuietPairs.BAD);
        due.is("pair, the last", x.pair(3, 3, 2), 0);
        due.is("tone, the last", x.tone(3, 2, 2), 0);
        due.is("line, the last", x.line(3, 3), 0);
    }
}
