/** Copper pairs that hear one another; the promises named in comments are those of DOC.md. */
public final class QuietPairs {
    public static final int BAD = -1, STATE = -2, FULL = -3, NONE = -9;

    private static final int LINES = 4;
    private static final int PAIRS = LINES * LINES;
    private static final int TONES = 3;
    private static final int PLACES = LINES * TONES;
    private static final int BEATS = 4;
    private static final int SYMBOLS = 31;
    private static final int SETS = 16;
    private static final int IMAGES = 2;
    private static final int MOST_ROUNDS_A_CALL = 20;

    private final Text text = new Text();
    private Told told = new Told();
    private Told toldNext = new Told();
    private final Done now = new Done();
    private final Past past = new Past();
    private final Symbols symbols = new Symbols();
    private final Power power = new Power();
    private final Tried tried = new Tried();
    private final Done[] images = new Done[IMAGES];
    private int imagesKept;
    private final int[] sent = new int[LINES];

    public QuietPairs() {
        told.becomeFirst();
        now.becomeFirst(told.ears);
        for (int image = 0; image < IMAGES; image++) {
            images[image] = new Done();
        }
    }

    // ---- what is told

    public int type(int letter) {
        if (letter < 0 || letter > 255) {
            return BAD;
        }
        return text.takesLetter(letter) ? text.length : FULL;
    }

    public int clear() {
        return text.empties();
    }

    public int tells() {
        toldNext.becomeFirst();
        int items = text.readsInto(toldNext);
        if (items < 0) {
            return items;
        }
        Told old = told;
        told = toldNext;
        toldNext = old;
        now.becomeFirst(told.ears);
        past.known = 0;
        tried.size = 0;
        imagesKept = 0;
        text.empties();
        return items;
    }

    // ---- what is done

    public int joins(int line) {
        if (!isLine(line)) {
            return BAD;
        }
        if (now.isOn(line)) {
            return STATE;
        }
        past.remembers(now);
        now.on |= 1 << line;
        return Integer.bitCount(now.on);
    }

    public int leaves(int line) {
        if (!isLine(line)) {
            return BAD;
        }
        if (!now.isOn(line)) {
            return STATE;
        }
        past.remembers(now);
        now.on &= ~(1 << line);
        for (int t = 0; t < TONES; t++) {
            now.power[TONES * line + t] = 0;
        }
        return Integer.bitCount(now.on);
    }

    public int drifts(int j, int i, int v) {
        if (!isLine(j) || !isLine(i) || !isSymbol(v) || (j == i && v == 0)) {
            return BAD;
        }
        int before = now.ears[LINES * j + i];
        if (before == v) {
            return STATE;
        }
        past.remembers(now);
        now.ears[LINES * j + i] = v;
        return before;
    }

    public int strikes(int j, int beat, int e) {
        if (!isLine(j) || beat < 0 || beat >= BEATS || !isSymbol(e) || e == 0) {
            return BAD;
        }
        past.remembers(now);
        int more = (now.struck[BEATS * j + beat] + e) % SYMBOLS;
        now.struck[BEATS * j + beat] = more;
        return more;
    }

    public int trains() {
        if (now.on == 0) {
            return STATE;
        }
        past.remembers(now);
        return symbols.learns(now);
    }

    public int fills(int n) {
        if (n < 1 || n > MOST_ROUNDS_A_CALL) {
            return BAD;
        }
        if (now.on == 0) {
            return STATE;
        }
        past.remembers(now);
        for (int round = 0; round < n; round++) {
            power.laysRound(told, now.on, now.power);
        }
        return power.isSteady(told, now) ? 1 : 0;
    }

    public int undo() {
        if (past.known == 0) {
            return STATE;
        }
        past.givesLatest(now);
        return past.known;
    }

    // ---- as it is

    public int pair(int j, int i, int what) {
        if (!isLine(j) || !isLine(i)) {
            return BAD;
        }
        int at = LINES * j + i;
        switch (what) {
            case 0: return now.ears[at];
            case 1: return now.learnt[at];
            case 2: return told.leaks[at];
            default: return BAD;
        }
    }

    public int line(int j, int what) {
        if (!isLine(j)) {
            return BAD;
        }
        switch (what) {
            case 0: return now.isOn(j) ? 1 : 0;
            case 1: return told.budgets[j];
            case 2: return powerOf(j);
            case 3: return levelsOf(j);
            default: return BAD;
        }
    }

    public int tone(int j, int t, int what) {
        if (!isLine(j) || t < 0 || t >= TONES) {
            return BAD;
        }
        switch (what) {
            case 0: return told.noises[TONES * j + t];
            case 1: return now.power[TONES * j + t];
            case 2: return Power.level(told, now.on, now.power, j, t);
            default: return BAD;
        }
    }

    // ---- symbols

    public int send(int a, int b, int c, int d, int i, int what) {
        sent[0] = a;
        sent[1] = b;
        sent[2] = c;
        sent[3] = d;
        for (int j = 0; j < LINES; j++) {
            if (!isSymbol(sent[j]) || (sent[j] != 0 && !now.isOn(j))) {
                return BAD;
            }
        }
        if (!isLineOn(i) || what < 0 || what > 1) {
            return BAD;
        }
        if (!symbols.makes(now.learnt, now.on, sent)) {
            return NONE;
        }
        return what == 0 ? symbols.made[i] : symbols.gotBy(now, i);
    }

    public int maker(int i, int j) {
        if (!isLineOn(i) || !isLineOn(j)) {
            return BAD;
        }
        for (int k = 0; k < LINES; k++) {
            sent[k] = k == j ? 1 : 0;
        }
        return symbols.makes(now.learnt, now.on, sent) ? symbols.made[i] : NONE;
    }

    public int clean() {
        return cleanAmong(now.on);
    }

    public int hurt(int line) {
        if (!isLine(line)) {
            return BAD;
        }
        if (now.isOn(line)) {
            return STATE;
        }
        return cleanAmong(now.on) & ~cleanAmong(now.on | 1 << line);
    }

    // ---- power

    public int settled(int what) {
        switch (what) {
            case 0: return power.settledAfter(told, now);
            case 1: return power.period(told, now);
            default: return BAD;
        }
    }

    // ---- which ear

    public int tries(int j, int set, int well) {
        if (!isLine(j) || set < 0 || set >= SETS || well < 0 || well > 1) {
            return BAD;
        }
        return tried.takes(j, set, well) ? tried.size : FULL;
    }

    public int forget() {
        int was = tried.size;
        tried.size = 0;
        return was;
    }

    public int which(int what) {
        switch (what) {
            case 0: return Integer.bitCount(tried.suspects(now.on));
            case 1: return Tried.least(tried.suspects(now.on));
            default: return BAD;
        }
    }

    public int ask() {
        return tried.best(now.on);
    }

    // ---- images

    public int keep(int image) {
        if (image < 0 || image >= IMAGES) {
            return BAD;
        }
        images[image].becomes(now);
        imagesKept |= 1 << image;
        return Integer.bitCount(now.on);
    }

    public int back(int image) {
        if (image < 0 || image >= IMAGES) {
            return BAD;
        }
        if ((imagesKept >> image & 1) == 0) {
            return STATE;
        }
        now.becomes(images[image]);
        past.known = 0;
        return Integer.bitCount(now.on);
    }

    public int count(int what) {
        switch (what) {
            case 0: return now.on;
            case 1: return learntOtherwise();
            case 2: return told.mask;
            case 3: return powerOfAll();
            case 4: return power.isSteady(told, now) ? 1 : 0;
            case 5: return tried.size;
            case 6: return text.length;
            case 7: return past.known;
            default: return BAD;
        }
    }

    private static boolean isLine(int line) {
        return line >= 0 && line < LINES;
    }

    private static boolean isSymbol(int v) {
        return v >= 0 && v < SYMBOLS;
    }

    private boolean isLineOn(int line) {
        return isLine(line) && now.isOn(line);
    }

    private int powerOf(int j) {
        int sum = 0;
        for (int t = 0; t < TONES; t++) {
            sum += now.power[TONES * j + t];
        }
        return sum;
    }

    private int powerOfAll() {
        int sum = 0;
        for (int j = 0; j < LINES; j++) {
            sum += powerOf(j);
        }
        return sum;
    }

    private int levelsOf(int j) {
        int sum = 0;
        for (int t = 0; t < TONES; t++) {
            sum += Power.level(told, now.on, now.power, j, t);
        }
        return sum;
    }

    private int learntOtherwise() {
        int others = 0;
        for (int j = 0; j < LINES; j++) {
            if (now.isOn(j)) {
                others += now.otherEars(j, now.on);
            }
        }
        return others;
    }

    /**
     * LINE j is CLEAN just if its EARS are as LEARNT: what is MADE fulfils LEARNT's row of j for
     * every s, and every row of symbols can be MADE by some s, so no other row does the same.
     */
    private int cleanAmong(int on) {
        for (int k = 0; k < LINES; k++) {
            sent[k] = 0;
        }
        if (!symbols.makes(now.learnt, on, sent)) {
            return 0;
        }
        int clean = 0;
        for (int j = 0; j < LINES; j++) {
            if ((on >> j & 1) == 1 && now.otherEars(j, on) == 0) {
                clean |= 1 << j;
            }
        }
        return clean;
    }

    /** What a text tells. Pairs lie at 4 times j and i, places at 3 times j and the TONE. */
    private static final class Told {
        final int[] ears = new int[PAIRS];
        final int[] leaks = new int[PAIRS];
        final int[] noises = new int[PLACES];
        final int[] budgets = new int[LINES];
        int mask;

        void becomeFirst() {
            for (int at = 0; at < PAIRS; at++) {
                ears[at] = at / LINES == at % LINES ? 1 : 0;
                leaks[at] = 0;
            }
            for (int at = 0; at < PLACES; at++) {
                noises[at] = 0;
            }
            for (int j = 0; j < LINES; j++) {
                budgets[j] = 4;
            }
            mask = 12;
        }
    }

    /** All that is undone and that images keep. */
    private static final class Done {
        int on;
        final int[] ears = new int[PAIRS];
        final int[] learnt = new int[PAIRS];
        final int[] struck = new int[LINES * BEATS];
        final int[] power = new int[PLACES];

        void becomeFirst(int[] toldEars) {
            on = 0;
            for (int at = 0; at < PAIRS; at++) {
                ears[at] = toldEars[at];
                learnt[at] = at / LINES == at % LINES ? 1 : 0;
            }
            forgetsStruck();
            for (int at = 0; at < PLACES; at++) {
                power[at] = 0;
            }
        }

        void becomes(Done other) {
            on = other.on;
            for (int at = 0; at < PAIRS; at++) {
                ears[at] = other.ears[at];
                learnt[at] = other.learnt[at];
            }
            for (int at = 0; at < LINES * BEATS; at++) {
                struck[at] = other.struck[at];
            }
            for (int at = 0; at < PLACES; at++) {
                power[at] = other.power[at];
            }
        }

        void forgetsStruck() {
            for (int at = 0; at < LINES * BEATS; at++) {
                struck[at] = 0;
            }
        }

        boolean isOn(int line) {
            return (on >> line & 1) == 1;
        }

        /** How many EARS of j for the LINES of a set are not as LEARNT. */
        int otherEars(int j, int set) {
            int others = 0;
            for (int i = 0; i < LINES; i++) {
                if ((set >> i & 1) == 1 && ears[LINES * j + i] != learnt[LINES * j + i]) {
                    others++;
                }
            }
            return others;
        }
    }

    /** The latest six of what was done, in a ring whose rows are used again. */
    private static final class Past {
        static final int MOST = 6;

        final Done[] ring = new Done[MOST];
        int next;
        int known;

        Past() {
            for (int n = 0; n < MOST; n++) {
                ring[n] = new Done();
            }
        }

        void remembers(Done now) {
            ring[next].becomes(now);
            next = next + 1 < MOST ? next + 1 : 0;
            known = Math.min(known + 1, MOST);
        }

        void givesLatest(Done now) {
            next = next > 0 ? next - 1 : MOST - 1;
            now.becomes(ring[next]);
            known--;
        }
    }

    /** THE TEXT and its reading. A fault once found stays: what is read behind it counts for nothing. */
    private static final class Text {
        static final int MOST = 160;
        static final int NO_FAULT = -1;
        static final int NO_NUMBER = -1;

        final int[] letters = new int[MOST];
        int length;
        int at;
        int fault;

        boolean takesLetter(int letter) {
            if (length >= MOST) {
                return false;
            }
            letters[length] = letter;
            length++;
            return true;
        }

        int empties() {
            int had = length;
            length = 0;
            return had;
        }

        /** How many ITEMS, or -10 less FAULT. */
        int readsInto(Told told) {
            at = 0;
            fault = NO_FAULT;
            int items = 0;
            skipsBlanks();
            for (int n = 0; n < MOST && at < length && fault == NO_FAULT; n++) {
                readsItem(told);
                items++;
                skipsBlanks();
            }
            return fault == NO_FAULT ? items : -10 - fault;
        }

        void skipsBlanks() {
            while (at < length && letters[at] == ' ') {
                at++;
            }
        }

        void readsItem(Told told) {
            int kind = letters[at];
            switch (kind) {
                case 'e': at++; readsEar(told); break;
                case 'n': at++; readsNoise(told); break;
                case 'g': at++; readsLeak(told); break;
                case 'b': at++; readsBudget(told); break;
                case 'm': at++; readsMask(told); break;
                default: fault = at; break;
            }
        }

        void readsEar(Told told) {
            int j = readsNumber(0, LINES - 1, NO_NUMBER);
            int i = readsNumber(0, LINES - 1, NO_NUMBER);
            int v = readsNumber(i == j ? 1 : 0, SYMBOLS - 1, NO_NUMBER);
            if (readsEnd()) {
                told.ears[LINES * j + i] = v;
            }
        }

        void readsNoise(Told told) {
            int j = readsNumber(0, LINES - 1, NO_NUMBER);
            int t = readsNumber(0, TONES - 1, NO_NUMBER);
            int v = readsNumber(0, 20, NO_NUMBER);
            if (readsEnd()) {
                told.noises[TONES * j + t] = v;
            }
        }

        void readsLeak(Told told) {
            int j = readsNumber(0, LINES - 1, NO_NUMBER);
            int i = readsNumber(0, LINES - 1, j);
            int v = readsNumber(0, 9, NO_NUMBER);
            if (readsEnd()) {
                told.leaks[LINES * j + i] = v;
            }
        }

        void readsBudget(Told told) {
            int j = readsNumber(0, LINES - 1, NO_NUMBER);
            int v = readsNumber(0, 12, NO_NUMBER);
            if (readsEnd()) {
                told.budgets[j] = v;
            }
        }

        void readsMask(Told told) {
            int v = readsNumber(1, 12, NO_NUMBER);
            if (readsEnd()) {
                told.mask = v;
            }
        }

        /** A NUMBER from least to most, but one; least, if there is a fault. */
        int readsNumber(int least, int most, int butOne) {
            skipsBlanks();
            if (fault != NO_FAULT) {
                return least;
            }
            int start = at;
            int value = readsFigures();
            if (value < least || value > most || value == butOne) {
                fault = start;
                return least;
            }
            return value;
        }

        /** NO_NUMBER, if there is no figure, a 0 ahead of others, or more than two of them (above 99). */
        int readsFigures() {
            int start = at;
            int value = 0;
            while (at < length && letters[at] >= '0' && letters[at] <= '9') {
                if (at - start < 2) {
                    value = 10 * value + letters[at] - '0';
                }
                at++;
            }
            int figures = at - start;
            boolean sound = figures == 1 || (figures == 2 && value > 9);
            return sound ? value : NO_NUMBER;
        }

        /** Whether the ITEM is ended, without a fault up to there. */
        boolean readsEnd() {
            skipsBlanks();
            if (fault != NO_FAULT) {
                return false;
            }
            if (at >= length || letters[at] != ';') {
                fault = at;
                return false;
            }
            at++;
            return true;
        }
    }

    /** What is learnt by MARKS, and what is MADE ahead and GOT. */
    private static final class Symbols {
        private static final int[] MARKS = {
            1, 1, 1, 1,
            1, 30, 1, 30,
            1, 1, 30, 30,
            1, 30, 30, 1};
        private static final int[] ONE_BY = {
            0, 1, 16, 21, 8, 25, 26, 9, 4, 7, 28, 17, 13, 12, 20, 29,
            2, 11, 19, 18, 14, 3, 24, 27, 22, 5, 6, 23, 10, 15, 30};
        private static final int ONE_BY_FOUR = 8;
        private static final int WIDTH = LINES + 1;

        final int[] got = new int[BEATS];
        final int[] made = new int[LINES];
        final int[] rows = new int[LINES * WIDTH];

        /** How many LEARNT are others then. */
        int learns(Done now) {
            int others = 0;
            for (int j = 0; j < LINES; j++) {
                if (now.isOn(j)) {
                    hearsBeats(now, j);
                    others += learnsLine(now, j);
                }
            }
            now.forgetsStruck();
            return others;
        }

        void hearsBeats(Done now, int j) {
            for (int beat = 0; beat < BEATS; beat++) {
                int sum = now.struck[BEATS * j + beat];
                for (int i = 0; i < LINES; i++) {
                    if (now.isOn(i)) {
                        sum += now.ears[LINES * j + i] * MARKS[BEATS * i + beat];
                    }
                }
                got[beat] = sum % SYMBOLS;
            }
        }

        int learnsLine(Done now, int j) {
            int others = 0;
            for (int i = 0; i < LINES; i++) {
                if (now.isOn(i)) {
                    int sum = 0;
                    for (int beat = 0; beat < BEATS; beat++) {
                        sum += got[beat] * MARKS[BEATS * i + beat];
                    }
                    int learnt = sum % SYMBOLS * ONE_BY_FOUR % SYMBOLS;
                    if (now.learnt[LINES * j + i] != learnt) {
                        now.learnt[LINES * j + i] = learnt;
                        others++;
                    }
                }
            }
            return others;
        }

        /** Whether symbols can be MADE of what is sent; they stand in made then (0 of LINES not on). */
        boolean makes(int[] learnt, int on, int[] sent) {
            for (int j = 0; j < LINES; j++) {
                if ((on >> j & 1) == 1 && learnt[LINES * j + j] == 0) {
                    return false;
                }
                setsRow(learnt, on, sent, j);
            }
            for (int column = 0; column < LINES; column++) {
                if (!bringsPivot(column)) {
                    return false;
                }
                clearsColumn(column);
            }
            for (int j = 0; j < LINES; j++) {
                made[j] = rows[WIDTH * j + LINES];
            }
            return true;
        }

        /** A LINE that is not on has the row "x is 0", so that there are always four rows. */
        void setsRow(int[] learnt, int on, int[] sent, int j) {
            boolean isOn = (on >> j & 1) == 1;
            for (int i = 0; i < LINES; i++) {
                boolean bothOn = isOn && (on >> i & 1) == 1;
                int alone = i == j ? 1 : 0;
                rows[WIDTH * j + i] = bothOn ? learnt[LINES * j + i] : isOn ? 0 : alone;
            }
            rows[WIDTH * j + LINES] = isOn ? learnt[LINES * j + j] * sent[j] % SYMBOLS : 0;
        }

        /** Whether a row from this one on has something in the column; it is changed with this one, and made 1 there. */
        boolean bringsPivot(int column) {
            int found = column;
            while (found < LINES && rows[WIDTH * found + column] == 0) {
                found++;
            }
            if (found >= LINES) {
                return false;
            }
            int factor = ONE_BY[rows[WIDTH * found + column]];
            for (int k = 0; k < WIDTH; k++) {
                int other = rows[WIDTH * column + k];
                rows[WIDTH * column + k] = rows[WIDTH * found + k] * factor % SYMBOLS;
                if (found != column) {
                    rows[WIDTH * found + k] = other;
                }
            }
            return true;
        }

        void clearsColumn(int column) {
            for (int j = 0; j < LINES; j++) {
                int factor = SYMBOLS - rows[WIDTH * j + column];
                if (j != column && factor != SYMBOLS) {
                    for (int k = 0; k < WIDTH; k++) {
                        rows[WIDTH * j + k] =
                            (rows[WIDTH * j + k] + factor * rows[WIDTH * column + k]) % SYMBOLS;
                    }
                }
            }
        }

        /** What j gets of what was MADE last. */
        int gotBy(Done now, int j) {
            int sum = 0;
            for (int i = 0; i < LINES; i++) {
                if (now.isOn(i)) {
                    sum += now.ears[LINES * j + i] * made[i];
                }
            }
            return sum % SYMBOLS * ONE_BY[now.learnt[LINES * j + j]] % SYMBOLS;
        }
    }

    /** ROUNDS, and where they lead; spare is where they are tried. */
    private static final class Power {
        static final int MOST_ROUNDS = 60;

        final int[] levels = new int[TONES];
        final int[] spare = new int[PLACES];
        long mark;

        static int level(Told told, int on, int[] power, int j, int t) {
            int sum = told.noises[TONES * j + t] + power[TONES * j + t];
            for (int i = 0; i < LINES; i++) {
                if (i != j && (on >> i & 1) == 1) {
                    sum += told.leaks[LINES * j + i] * power[TONES * i + t];
                }
            }
            return sum;
        }

        void laysRound(Told told, int on, int[] power) {
            for (int j = 0; j < LINES; j++) {
                if ((on >> j & 1) == 1) {
                    laysLine(told, on, power, j);
                }
            }
        }

        /** No other LINE's POWER changes meanwhile, so each unit laid makes just its own LEVEL one more. */
        void laysLine(Told told, int on, int[] power, int j) {
            for (int t = 0; t < TONES; t++) {
                power[TONES * j + t] = 0;
                levels[t] = level(told, on, power, j, t);
            }
            for (int unit = 0; unit < told.budgets[j]; unit++) {
                int t = quietest(power, j, told.mask);
                if (t == NONE) {
                    return;
                }
                power[TONES * j + t]++;
                levels[t]++;
            }
        }

        int quietest(int[] power, int j, int mask) {
            int best = NONE;
            for (int t = 0; t < TONES; t++) {
                if (power[TONES * j + t] < mask && (best == NONE || levels[t] < levels[best])) {
                    best = t;
                }
            }
            return best;
        }

        boolean isSteady(Told told, Done now) {
            startsSpare(now.power);
            return !changesSpare(told, now.on);
        }

        int settledAfter(Told told, Done now) {
            startsSpare(now.power);
            for (int rounds = 0; rounds <= MOST_ROUNDS; rounds++) {
                if (!changesSpare(told, now.on)) {
                    return rounds;
                }
            }
            return NONE;
        }

        /**
         * What repeats behind some r ROUNDS repeats behind all later ones, so r is 60 here: that
         * is the mark when it did not settle, with spare one ROUND later (and otherwise).
         */
        int period(Told told, Done now) {
            if (settledAfter(told, now) != NONE) {
                return NONE;
            }
            for (int p = 2; p <= MOST_ROUNDS; p++) {
                laysRound(told, now.on, spare);
                if (packed(spare) == mark) {
                    return p;
                }
            }
            return NONE;
        }

        void startsSpare(int[] power) {
            for (int at = 0; at < PLACES; at++) {
                spare[at] = power[at];
            }
        }

        /** Whether one more ROUND changes spare; mark is what it was. */
        boolean changesSpare(Told told, int on) {
            mark = packed(spare);
            laysRound(told, on, spare);
            return packed(spare) != mark;
        }

        /** POWER is 12 at most: four bits each. */
        static long packed(int[] power) {
            long all = 0;
            for (int at = 0; at < PLACES; at++) {
                all = all << 4 | power[at];
            }
            return all;
        }
    }

    /** What was TRIED; EARS as bits, that of j for i at 4 times j and i. */
    private static final class Tried {
        static final int MOST = 8;

        final int[] heard = new int[MOST];
        final boolean[] well = new boolean[MOST];
        int size;

        boolean takes(int j, int set, int isWell) {
            if (size >= MOST) {
                return false;
            }
            heard[size] = set << LINES * j;
            well[size] = isWell == 1;
            size++;
            return true;
        }

        /** One EAR that is otherwise makes a try come out not WELL just if it is heard in it. */
        int suspects(int on) {
            int ears = 0;
            for (int j = 0; j < LINES; j++) {
                if ((on >> j & 1) == 1) {
                    ears |= on << LINES * j;
                }
            }
            for (int n = 0; n < size && n < MOST; n++) {
                ears &= well[n] ? ~heard[n] : heard[n];
            }
            return ears;
        }

        static int least(int ears) {
            for (int ear = 0; ear < PAIRS; ear++) {
                if ((ears >> ear & 1) == 1) {
                    return ear;
                }
            }
            return NONE;
        }

        int best(int on) {
            int ears = suspects(on);
            int all = Integer.bitCount(ears);
            if (all < 2) {
                return NONE;
            }
            int best = NONE;
            int bestGreater = all + 1;
            for (int next = 0; next < LINES * SETS; next++) {
                int j = next / SETS;
                int set = next % SETS;
                if ((on >> j & 1) == 1 && (set & ~on) == 0) {
                    int notWell = Integer.bitCount(ears & set << LINES * j);
                    int greater = Math.max(notWell, all - notWell);
                    if (greater < bestGreater) {
                        best = next;
                        bestGreater = greater;
                    }
                }
            }
            return best;
        }
    }
}
