import java.util.ArrayList;
import java.util.List;

/**
 * "Refused, and nothing changes": each refused call, and each that only looks, on objects in several
 * states; then all that can be found out of the object is held against one without that call: as it
 * is, what may be UNDONE step by step, IMAGES, what is STRUCK, TRIED, and THE TEXT's letters.
 */
public final class RefusedTest {
    private static final Due due = new Due("RefusedTest");

    private interface Calls {
        void on(QuietPairs x);
    }

    private interface Call {
        int on(QuietPairs x);
    }

    private interface Look {
        String at(QuietPairs x);
    }

    /** A call that must change nothing, with the answer that is due. */
    private static final class Idle {
        final String name;
        final Call call;
        final int answer;

        Idle(String name, Call call, int answer) {
            this.name = name;
            this.call = call;
            this.answer = answer;
        }
    }

    private static final List<Look> LOOKS = new ArrayList<>();

    public static void main(String[] args) {
        makesLooks();
        due.says("Refused, and nothing changes, the first of these that is so: BAD, STATE, FULL (a new object)");
        holds(x -> { }, idleOfNew());
        due.says("Refused, and nothing changes: much was done, all is full");
        holds(RefusedTest::muchDone, idleOfMuchDone());
        due.says("Refused, and nothing changes: all LINES are ON, one IMAGE is kept");
        holds(RefusedTest::allOn, idleOfAllOn());
        due.says("Promise 4: -10 less FAULT: nothing changes (THE TEXT stays, too)");
        faults();
        due.says("Part 3: (Nothing is changed.)");
        holds(RefusedTest::muchDone, onlyLooking());
        due.ends();
    }

    private static void makesLooks() {
        LOOKS.add(Due::view);
        for (int k = 1; k <= 6; k++) {
            int undone = k;
            LOOKS.add(x -> undoes(x, undone) + Due.view(x));
            LOOKS.add(x -> undoes(x, undone) + learns(x));
        }
        for (int k = 0; k < 2; k++) {
            int image = k;
            LOOKS.add(x -> x.back(image) + " " + Due.view(x));
            LOOKS.add(x -> x.back(image) + " " + learns(x));
        }
        LOOKS.add(RefusedTest::learns);
        LOOKS.add(RefusedTest::suspects);
        LOOKS.add(x -> x.tells() + " " + Due.view(x));
        LOOKS.add(x -> x.type('m') + " " + x.type('3') + " " + x.type(';') + " " + x.tells() + " " + Due.view(x));
        LOOKS.add(x -> x.clear() + " " + x.forget() + " " + x.tries(0, 15, 0) + " " + x.which(0) + " " + x.ask());
        LOOKS.add(RefusedTest::symbolsAndPower);
    }

    private static String undoes(QuietPairs x, int times) {
        StringBuilder all = new StringBuilder();
        for (int n = 0; n < times; n++) {
            all.append(x.undo()).append(' ');
        }
        return all.toString();
    }

    /** What was STRUCK shows in what is LEARNT, and in what further strikes answer. */
    private static String learns(QuietPairs x) {
        StringBuilder all = new StringBuilder();
        for (int at = 0; at < 16; at++) {
            all.append(x.strikes(at / 4, at % 4, 1)).append(' ');
        }
        for (int j = 0; j < 4; j++) {
            all.append(x.joins(j)).append(' ');
        }
        all.append(x.trains());
        for (int at = 0; at < 16; at++) {
            all.append(' ').append(x.pair(at / 4, at % 4, 1));
        }
        return all.toString();
    }

    private static String suspects(QuietPairs x) {
        StringBuilder all = new StringBuilder();
        for (int on = 0; on < 16; on++) {
            for (int j = 0; j < 4; j++) {
                all.append((on >> j & 1) == 1 ? x.joins(j) : x.leaves(j)).append(' ');
            }
            all.append(x.which(0)).append(' ').append(x.which(1)).append(' ').append(x.ask()).append('/');
        }
        return all.toString();
    }

    private static String symbolsAndPower(QuietPairs x) {
        StringBuilder all = new StringBuilder();
        int on = x.count(0);
        for (int i = 0; i < 4; i++) {
            all.append(x.hurt(i)).append(' ').append(x.send(on & 1, on & 2, on & 4, on & 8, i, 0)).append(' ');
            all.append(x.send(on & 1, on & 2, on & 4, on & 8, i, 1)).append(' ');
            for (int j = 0; j < 4; j++) {
                all.append(x.maker(i, j)).append(' ');
            }
        }
        return all.append(x.clean()).append(' ').append(x.settled(0)).append(' ').append(x.settled(1)).toString();
    }

    private static QuietPairs made(Calls state) {
        QuietPairs x = new QuietPairs();
        state.on(x);
        return x;
    }

    private static void holds(Calls state, List<Idle> idle) {
        List<String> want = new ArrayList<>();
        for (Look look : LOOKS) {
            want.add(look.at(made(state)));
        }
        for (Idle one : idle) {
            for (int k = 0; k < want.size(); k++) {
                QuietPairs x = made(state);
                due.is(one.name, one.call.on(x), one.answer);
                due.is("look " + k + " behind " + one.name, LOOKS.get(k).at(x), want.get(k));
            }
        }
    }

    /** LINES 0, 1, 2 are ON; eight are TRIED, both IMAGES are kept, six may be UNDONE, THE TEXT has 160 letters. */
    private static void muchDone(QuietPairs x) {
        Due.types(x, Due.EARS + "g0 1 2;b2 9;n1 1 3;m7;");
        x.tells();
        x.joins(0);
        x.joins(1);
        x.strikes(0, 1, 5);
        x.strikes(3, 3, 6);
        x.keep(0);
        x.trains();
        x.strikes(1, 2, 7);
        x.strikes(3, 0, 8);
        x.joins(2);
        x.keep(1);
        x.fills(2);
        x.drifts(0, 2, 1);
        x.strikes(2, 3, 9);
        x.fills(1);
        for (int n = 0; n < 8; n++) {
            x.tries(n % 4, 2 * n + 1, n == 5 ? 0 : 1);
        }
        Due.types(x, "e1 3 9;b1 3;" + " ".repeat(148));
    }

    /** All LINES are ON; IMAGE 1 is kept, three are TRIED, two letters stand in THE TEXT. */
    private static void allOn(QuietPairs x) {
        Due.types(x, Due.EARS);
        x.tells();
        for (int j = 0; j < 4; j++) {
            x.joins(j);
        }
        x.trains();
        x.keep(1);
        x.drifts(3, 3, 30);
        x.drifts(0, 1, 0);
        x.fills(1);
        x.strikes(3, 1, 30);
        x.tries(0, 3, 0);
        x.tries(1, 3, 1);
        x.tries(0, 1, 1);
        Due.types(x, "m1");
    }

    /** Calls that are BAD in whatever state. */
    private static List<Idle> bad() {
        List<Idle> all = new ArrayList<>();
        int[] outside = {-1, 4, 32, Integer.MIN_VALUE, Integer.MAX_VALUE};
        for (int v : outside) {
            String of = "(" + v + ")";
            all.add(new Idle("joins" + of, x -> x.joins(v), -1));
            all.add(new Idle("leaves" + of, x -> x.leaves(v), -1));
            all.add(new Idle("drifts of " + of, x -> x.drifts(v, 0, 3), -1));
            all.add(new Idle("drifts for " + of, x -> x.drifts(0, v, 3), -1));
            all.add(new Idle("strikes of " + of, x -> x.strikes(v, 0, 3), -1));
            all.add(new Idle("strikes in " + of, x -> x.strikes(0, v, 3), -1));
            all.add(new Idle("pair of " + of, x -> x.pair(v, 0, 0), -1));
            all.add(new Idle("pair for " + of, x -> x.pair(0, v, 0), -1));
            all.add(new Idle("line" + of, x -> x.line(v, 0), -1));
            all.add(new Idle("tone" + of, x -> x.tone(v, 0, 0), -1));
            all.add(new Idle("send to " + of, x -> x.send(0, 0, 0, 0, v, 0), -1));
            all.add(new Idle("maker of " + of, x -> x.maker(v, 0), -1));
            all.add(new Idle("maker for " + of, x -> x.maker(0, v), -1));
            all.add(new Idle("hurt" + of, x -> x.hurt(v), -1));
            all.add(new Idle("tries" + of, x -> x.tries(v, 1, 1), -1));
            all.add(new Idle("settled" + of, x -> x.settled(v), -1));
            all.add(new Idle("which" + of, x -> x.which(v), -1));
            all.add(new Idle("keep" + of, x -> x.keep(v), -1));
            all.add(new Idle("back" + of, x -> x.back(v), -1));
            all.add(new Idle("pair, what = " + of, x -> x.pair(0, 0, v), -1));
        }
        int[] beyond = {-1, 256, Integer.MIN_VALUE, Integer.MAX_VALUE};
        for (int v : beyond) {
            String of = "(" + v + ")";
            all.add(new Idle("type" + of, x -> x.type(v), -1));
            all.add(new Idle("drifts to " + of, x -> x.drifts(0, 1, v), -1));
            all.add(new Idle("strikes by " + of, x -> x.strikes(0, 1, v), -1));
            all.add(new Idle("fills" + of, x -> x.fills(v), -1));
            all.add(new Idle("send of " + of, x -> x.send(v, 0, 0, 0, 0, 0), -1));
            all.add(new Idle("tries of the set " + of, x -> x.tries(0, v, 1), -1));
            all.add(new Idle("tries, well = " + of, x -> x.tries(0, 1, v), -1));
            all.add(new Idle("count" + of, x -> x.count(v), -1));
        }
        all.add(new Idle("drifts to 31", x -> x.drifts(0, 1, 31), -1));
        all.add(new Idle("drifts to 0 for itself", x -> x.drifts(2, 2, 0), -1));
        all.add(new Idle("strikes by 0", x -> x.strikes(1, 1, 0), -1));
        all.add(new Idle("strikes by 31", x -> x.strikes(1, 1, 31), -1));
        all.add(new Idle("fills(0)", x -> x.fills(0), -1));
        all.add(new Idle("fills(21)", x -> x.fills(21), -1));
        all.add(new Idle("settled(2)", x -> x.settled(2), -1));
        all.add(new Idle("tries of the set 16", x -> x.tries(0, 16, 0), -1));
        all.add(new Idle("tries, well = 2", x -> x.tries(0, 1, 2), -1));
        all.add(new Idle("which(2)", x -> x.which(2), -1));
        all.add(new Idle("keep(2)", x -> x.keep(2), -1));
        all.add(new Idle("back(2)", x -> x.back(2), -1));
        all.add(new Idle("count(8)", x -> x.count(8), -1));
        return all;
    }

    private static List<Idle> idleOfNew() {
        List<Idle> all = bad();
        for (int k = 0; k < 4; k++) {
            int j = k;
            all.add(new Idle("leaves(" + j + ")", x -> x.leaves(j), -2));
            all.add(new Idle("drifts to what it is", x -> x.drifts(j, j, 1), -2));
            all.add(new Idle("drifts to what it is", x -> x.drifts(j, (j + 1) % 4, 0), -2));
            all.add(new Idle("send of one not ON", x -> x.send(j == 0 ? 1 : 0, j == 1 ? 1 : 0, j == 2 ? 1 : 0, j == 3 ? 1 : 0, 0, 0), -1));
        }
        all.add(new Idle("trains", x -> x.trains(), -2));
        all.add(new Idle("fills(1)", x -> x.fills(1), -2));
        all.add(new Idle("fills(20)", x -> x.fills(20), -2));
        all.add(new Idle("undo", x -> x.undo(), -2));
        all.add(new Idle("back(0)", x -> x.back(0), -2));
        all.add(new Idle("back(1)", x -> x.back(1), -2));
        all.add(new Idle("clear of none", x -> x.clear(), 0));
        all.add(new Idle("forget of none", x -> x.forget(), 0));
        return all;
    }

    private static List<Idle> idleOfMuchDone() {
        List<Idle> all = bad();
        for (int k = 0; k < 3; k++) {
            int j = k;
            all.add(new Idle("joins(" + j + ")", x -> x.joins(j), -2));
            all.add(new Idle("hurt(" + j + ")", x -> x.hurt(j), -2));
            all.add(new Idle("drifts to what it is", x -> x.drifts(j, j, Due.earOf(j, j)), -2));
        }
        all.add(new Idle("leaves(3)", x -> x.leaves(3), -2));
        all.add(new Idle("drifts to what it has DRIFTED to", x -> x.drifts(0, 2, 1), -2));
        all.add(new Idle("type, FULL", x -> x.type('m'), -3));
        all.add(new Idle("type, FULL", x -> x.type(0), -3));
        all.add(new Idle("tries, FULL", x -> x.tries(3, 15, 0), -3));
        all.add(new Idle("tries, FULL", x -> x.tries(0, 0, 1), -3));
        all.add(new Idle("send of 3, not ON", x -> x.send(0, 0, 0, 1, 0, 0), -1));
        all.add(new Idle("send to 3, not ON", x -> x.send(0, 0, 0, 0, 3, 0), -1));
        all.add(new Idle("maker of 3, not ON", x -> x.maker(3, 0), -1));
        all.add(new Idle("maker for 3, not ON", x -> x.maker(0, 3), -1));
        return all;
    }

    private static List<Idle> idleOfAllOn() {
        List<Idle> all = bad();
        for (int k = 0; k < 4; k++) {
            int j = k;
            all.add(new Idle("joins(" + j + ")", x -> x.joins(j), -2));
            all.add(new Idle("hurt(" + j + ")", x -> x.hurt(j), -2));
        }
        all.add(new Idle("back(0)", x -> x.back(0), -2));
        all.add(new Idle("drifts to 30, which it is", x -> x.drifts(3, 3, 30), -2));
        all.add(new Idle("drifts to 0, which it is", x -> x.drifts(0, 1, 0), -2));
        all.add(new Idle("tells of 'm1'", x -> x.tells(), -12));
        return all;
    }

    private static void faults() {
        String[] texts = {"x", "m3", "e0 1 7;m6;b0 1;n3 2 9;g0 1 9;m13;", "e0 0 0;", "m6;e0 1 100;", "g1 1 1;", "b0 2;;"};
        int[] answers = {-10, -12, -40, -15, -18, -13, -15};
        for (int k = 0; k < texts.length; k++) {
            int at = k;
            Calls state = x -> {
                muchDone(x);
                x.clear();
                Due.types(x, texts[at]);
            };
            List<Idle> one = new ArrayList<>();
            one.add(new Idle("tells of '" + texts[at] + "'", x -> x.tells(), answers[at]));
            one.add(new Idle("tells twice of '" + texts[at] + "'", x -> x.tells() + x.tells(), 2 * answers[at]));
            holds(state, one);
        }
    }

    private static List<Idle> onlyLooking() {
        QuietPairs same = made(RefusedTest::muchDone);
        List<Call> calls = new ArrayList<>();
        for (int k = 0; k < 8; k++) {
            int at = k;
            calls.add(x -> x.count(at));
            calls.add(x -> x.line(at % 4, at / 4));
            calls.add(x -> x.line(at % 4, 2 + at / 4));
            calls.add(x -> x.pair(at % 4, at / 2, at % 3));
            calls.add(x -> x.tone(at % 4, at % 3, at / 3));
            calls.add(x -> x.send(at, 30 - at, 1, 0, at % 3, at / 4));
            calls.add(x -> x.maker(at % 3, at / 3));
        }
        calls.add(x -> x.clean());
        calls.add(x -> x.hurt(3));
        calls.add(x -> x.settled(0));
        calls.add(x -> x.settled(1));
        calls.add(x -> x.which(0));
        calls.add(x -> x.which(1));
        calls.add(x -> x.ask());
        List<Idle> all = new ArrayList<>();
        for (Call call : calls) {
            all.add(new Idle("look " + all.size(), call, call.on(same)));
        }
        return all;
    }
}
