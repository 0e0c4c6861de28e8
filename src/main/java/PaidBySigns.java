import java.util.Arrays;

/** A house for wages by signs; what each call tells stands in the document, by its promises. */
public final class PaidBySigns {
    public static final int NONE = -1;
    public static final int RANGE = -2;
    public static final int FULL = -3;
    public static final int STATE = -4;

    private static final int NO_NUMBER = -2000000000;
    private static final int MOST_BYTES = 900;
    private static final int MOST_SIGNS = 4;
    private static final int MOST_WORKS = 5;
    private static final int MOST_RATES = 3;
    private static final int MOST_WAGE = 9999;
    private static final int MOST_PRICE = 9999;
    private static final int MOST_COINS = 20;
    private static final int MOST_PRESS = 9999;
    private static final int MOST_MIX = 1000;
    private static final int LAST_STEP = 999;
    private static final int MOST_SEEN = 8;
    private static final int MOST_RIGHTS = 20;

    private final Reader reader = new Reader();
    private Hire hire = new Hire();
    private final int[] hand = new int[MOST_SIGNS];
    private final Fraction latest = new Fraction();
    private final Fraction trial = new Fraction();
    private final Fraction champion = new Fraction();
    private final long[] wageUpper = new long[MOST_SIGNS];
    private final long[] wageLower = new long[MOST_SIGNS];
    private boolean hasWages = false;
    private final LeastCost cheapest = new LeastCost();
    private final OneSum oneSum = new OneSum();
    private final CoinSearch coinSearch = new CoinSearch();
    private final Proofs proofs = new Proofs();
    private final Diary diary = new Diary();

    public PaidBySigns() {
    }

    public int feed(int a, int b, int c, int d, int e) {
        if (reader.length + 20 > MOST_BYTES) {
            return FULL;
        }
        reader.append(a);
        reader.append(b);
        reader.append(c);
        reader.append(d);
        reader.append(e);
        return reader.length;
    }

    public int end(int n) {
        if (n < 0 || n > reader.length) {
            return NONE;
        }
        reader.length = n;
        return n;
    }

    public int hire() {
        boolean isRead = reader.readText();
        reader.length = 0;
        if (!isRead) {
            return NONE;
        }
        Hire earlier = hire;
        hire = reader.into;
        reader.into = earlier;
        Arrays.fill(hand, hire.least);
        latest.forget();
        hasWages = false;
        proofs.forget();
        diary.forget();
        return hire.works;
    }

    public int fault(int what) {
        if (what == 0) {
            return reader.faultKind;
        }
        return what == 1 ? reader.faultPlace : NONE;
    }

    public int told(int what) {
        switch (what) {
            case 0:
                return hire.signs;
            case 1:
                return hire.works;
            case 2:
                return hire.whole;
            case 3:
                return hire.otherwise;
            case 4:
                return hire.least;
            case 5:
                return hire.rates;
            default:
                return toldOfOne(what);
        }
    }

    public int chance(int a, int s) {
        return isWork(a) && isSign(s) ? hire.chances[a][s] : RANGE;
    }

    public int feeling(int w) {
        return w < 0 || w > MOST_WAGE ? RANGE : hire.feltOf(w);
    }

    public int wage(int s, int w) {
        if (!isSign(s) || w < hire.least || w > MOST_WAGE) {
            return RANGE;
        }
        int earlier = hand[s];
        hand[s] = w;
        return earlier;
    }

    public int worth(int a) {
        return isWork(a) ? hire.worthAt(a, hand) : NO_NUMBER;
    }

    public int leaves(int a) {
        return isWork(a) ? hire.leftAt(a, hand) : NO_NUMBER;
    }

    public int does() {
        return hire.works == 0 ? STATE : hire.doneAt(hand);
    }

    public int comes() {
        if (hire.works == 0) {
            return STATE;
        }
        int worthOfDone = hire.worthAt(hire.doneAt(hand), hand);
        return worthOfDone >= hire.whole * hire.otherwise ? 1 : 0;
    }

    public long upper() {
        return latest.upper;
    }

    public long lower() {
        return latest.lower;
    }

    public int make(int a) {
        if (!isWork(a)) {
            return RANGE;
        }
        if (!cheapest.findWages(hire, a)) {
            return NONE;
        }
        cheapest.costInto(latest);
        for (int s = 0; s < hire.signs; s++) {
            cheapest.wageInto(trial, s);
            wageUpper[s] = trial.upper;
            wageLower[s] = trial.lower;
        }
        hasWages = true;
        return 1;
    }

    public long wages(int s, boolean isLower) {
        if (!hasWages || !isSign(s)) {
            return NONE;
        }
        return isLower ? wageLower[s] : wageUpper[s];
    }

    public int seen(int a) {
        if (!isWork(a)) {
            return RANGE;
        }
        int wanted = hire.costs[a] + hire.otherwise;
        if (wanted <= hire.feltOf(hire.least)) {
            latest.become(hire.least, 1);
        } else {
            hire.wageOf(wanted, 1, latest);
        }
        return 1;
    }

    public int best() {
        int found = bestWork();
        if (found != NONE) {
            latest.copy(champion);
        }
        return found;
    }

    public int merged(int a, int s, int t) {
        if (!isWork(a) || !isPair(s, t)) {
            return RANGE;
        }
        if (!cheapest.findMerged(hire, a, s, t)) {
            return NONE;
        }
        cheapest.costInto(latest);
        return 1;
    }

    public int coins(int a, int most) {
        if (!isWork(a) || most < 0 || most > MOST_COINS) {
            return RANGE;
        }
        if (!coinSearch.find(hire, a, most)) {
            return NONE;
        }
        latest.become(coinSearch.bestCost + (long) hire.whole * hire.least, hire.whole);
        for (int s = 0; s < hire.signs; s++) {
            wageUpper[s] = hire.least + coinSearch.chosen[s];
            wageLower[s] = 1;
        }
        hasWages = true;
        return 1;
    }

    public int bar(int a) {
        if (!isWork(a)) {
            return RANGE;
        }
        int found = NONE;
        for (int s = 0; s < hire.signs; s++) {
            if (!oneSum.settle(hire, a, s, 1, hire.whole)) {
                continue;
            }
            oneSum.meanInto(trial, hire, hire.chanceFrom(a, s), hire.whole);
            if (found == NONE || Fraction.isBelow(trial, champion)) {
                champion.copy(trial);
                found = s;
            }
        }
        if (found != NONE) {
            latest.copy(champion);
        }
        return found;
    }

    public int crew(int a, int s) {
        if (!isWork(a) || !isSign(s)) {
            return RANGE;
        }
        int good = hire.chanceFrom(a, s);
        int all = hire.whole * hire.whole;
        if (!oneSum.settle(hire, a, s, good, all)) {
            return NONE;
        }
        oneSum.meanInto(latest, hire, good * good, all);
        return 1;
    }

    public int watch(int a, int price) {
        if (!isWork(a) || price < 0 || price > MOST_PRICE) {
            return RANGE;
        }
        int found = NONE;
        for (int q = 0; q <= hire.whole; q++) {
            if (!oneSum.settleWatched(hire, a, q)) {
                continue;
            }
            oneSum.meanInto(trial, hire, hire.whole, hire.whole);
            trial.add((long) q * price, hire.whole);
            if (found == NONE || Fraction.isBelow(trial, champion)) {
                champion.copy(trial);
                found = q;
            }
        }
        if (found != NONE) {
            latest.copy(champion);
        }
        return found;
    }

    public int press(int b, int n) {
        if ((b != NONE && !isWork(b)) || n < 0 || n > MOST_PRESS) {
            return RANGE;
        }
        return b == NONE ? proofs.changeElse(n) : proofs.changePress(b, n);
    }

    public int by(int n) {
        if (n < 1 || n > MOST_PRESS) {
            return RANGE;
        }
        int earlier = proofs.lowerNumber;
        proofs.lowerNumber = n;
        return earlier;
    }

    public int proves(int a) {
        if (!isWork(a)) {
            return RANGE;
        }
        return proofs.boundInto(latest, hire, a) ? 1 : NONE;
    }

    public int mix(int b, int n) {
        return !isWork(b) || n < 0 || n > MOST_MIX ? RANGE : proofs.changeMix(b, n);
    }

    public int same(int a) {
        if (!isWork(a)) {
            return RANGE;
        }
        return proofs.isRuledOut(hire, a) ? 1 : 0;
    }

    public int edge(int a, int s, int t) {
        if (!isWork(a) || !isPair(s, t)) {
            return RANGE;
        }
        int[] row = hire.chances[a];
        int ofS = row[s];
        int ofT = row[t];
        int most = Math.min(ofS, hire.whole - ofT);
        int before = bestWork();
        int found = NONE;
        for (int e = 1; e <= most && found == NONE; e++) {
            row[s] = ofS - e;
            row[t] = ofT + e;
            if (bestWork() != before) {
                found = e;
            }
        }
        row[s] = ofS;
        row[t] = ofT;
        return found;
    }

    public int ratio(int a, int b) {
        if (!isWork(a) || !isWork(b)) {
            return RANGE;
        }
        for (int s = 0; s < hire.signs; s++) {
            for (int t = 0; t < hire.signs; t++) {
                boolean isMore = hire.brings[t] > hire.brings[s];
                int forT = hire.chances[a][t] * hire.chances[b][s];
                int forS = hire.chances[a][s] * hire.chances[b][t];
                if (isMore && forT < forS) {
                    return 0;
                }
            }
        }
        return 1;
    }

    public int rises(int a) {
        if (!isWork(a)) {
            return RANGE;
        }
        if (!cheapest.findWages(hire, a)) {
            return NONE;
        }
        for (int s = 0; s < hire.signs; s++) {
            for (int t = 0; t < hire.signs; t++) {
                if (hire.brings[t] > hire.brings[s] && cheapest.above[t] < cheapest.above[s]) {
                    return 0;
                }
            }
        }
        return 1;
    }

    public int see(int told, int s) {
        if (!diary.canTell(told) || !isSign(s)) {
            return RANGE;
        }
        return diary.seen >= MOST_SEEN ? FULL : diary.write(told, s);
    }

    public int right(int told, int k, int s) {
        if (!diary.canTell(told) || !diary.canCorrect(told, k) || !isSign(s)) {
            return RANGE;
        }
        return diary.rights >= MOST_RIGHTS ? FULL : diary.correct(told, k, s);
    }

    public int odds(int a, int known) {
        if (!isWork(a) || !isStep(known)) {
            return RANGE;
        }
        long sum = 0;
        for (int b = 0; b < hire.works; b++) {
            sum += diary.productOf(hire, b, known);
        }
        if (sum == 0) {
            return NONE;
        }
        latest.become(diary.productOf(hire, a, known), sum);
        return 1;
    }

    public int guess(int known) {
        if (!isStep(known)) {
            return RANGE;
        }
        if (hire.works == 0) {
            return STATE;
        }
        int found = NONE;
        long most = 0;
        for (int a = 0; a < hire.works; a++) {
            long product = diary.productOf(hire, a, known);
            if (product > most) {
                most = product;
                found = a;
            }
        }
        return found;
    }

    public int count(int what) {
        switch (what) {
            case 0:
                return diary.seen;
            case 1:
                return diary.rights;
            case 2:
                return proofs.lowerNumber;
            case 3:
                return reader.length;
            default:
                return NONE;
        }
    }

    private int toldOfOne(int what) {
        if (what >= 10 && what < 10 + hire.signs) {
            return hire.brings[what - 10];
        }
        if (what >= 20 && what < 20 + hire.works) {
            return hire.costs[what - 20];
        }
        if (what >= 30 && what < 30 + hire.rates) {
            return hire.rate[what - 30];
        }
        return what >= 40 && what < 40 + hire.rates - 1 ? hire.mark[what - 40] : NONE;
    }

    private boolean isSign(int s) {
        return s >= 0 && s < hire.signs;
    }

    private boolean isPair(int s, int t) {
        return isSign(s) && isSign(t) && s != t;
    }

    private boolean isWork(int a) {
        return a >= 0 && a < hire.works;
    }

    private static boolean isStep(int step) {
        return step >= 0 && step <= LAST_STEP;
    }

    /** BEST of the HIRE as it stands now; what it leaves comes to be the champion. */
    private int bestWork() {
        int found = NONE;
        for (int a = 0; a < hire.works; a++) {
            if (!cheapest.findCost(hire, a)) {
                continue;
            }
            cheapest.costInto(trial);
            trial.become(-trial.upper, trial.lower);
            trial.add(hire.broughtBy(a), hire.whole);
            if (found == NONE || Fraction.isBelow(champion, trial)) {
                champion.copy(trial);
                found = a;
            }
        }
        return found;
    }

    /** A number as an upper one over a lower one, by its least numbers; lower 0 where none is told. */
    static final class Fraction {
        // Euclid's steps on two longs stay below 100.
        static final int MOST_STEPS = 200;

        long upper = NO_NUMBER;
        long lower = 0;

        void forget() {
            upper = NO_NUMBER;
            lower = 0;
        }

        void copy(Fraction from) {
            upper = from.upper;
            lower = from.lower;
        }

        /** The lower number that is handed in is 1 or more. */
        void become(long newUpper, long newLower) {
            long part = commonPart(Math.abs(newUpper), newLower);
            if (newLower < 1 || part < 1) {
                forget();
                return;
            }
            upper = newUpper / part;
            lower = newLower / part;
        }

        void add(long moreUpper, long moreLower) {
            become(upper * moreLower + moreUpper * lower, lower * moreLower);
        }

        static boolean isBelow(Fraction one, Fraction other) {
            return one.upper * other.lower < other.upper * one.lower;
        }

        static long commonPart(long one, long other) {
            long high = one;
            long low = other;
            for (int step = 0; step < MOST_STEPS && low != 0; step++) {
                long left = high % low;
                high = low;
                low = left;
            }
            return high;
        }
    }

    /** What a text tells; the same object is filled again for each text. */
    static final class Hire {
        int signs;
        int works;
        int whole;
        int otherwise;
        int least;
        int rates;
        final int[] brings = new int[MOST_SIGNS];
        final int[] costs = new int[MOST_WORKS];
        final int[][] chances = new int[MOST_WORKS][MOST_SIGNS];
        final int[] rate = new int[MOST_RATES];
        final int[] mark = new int[MOST_RATES - 1];

        Hire() {
            clear();
        }

        void clear() {
            signs = 0;
            works = 0;
            whole = 10;
            otherwise = 0;
            least = 0;
            rates = 1;
            rate[0] = 1;
        }

        int feltOf(int w) {
            int felt = 0;
            int from = 0;
            for (int i = 0; i < rates; i++) {
                int to = i == rates - 1 ? w : Math.min(w, mark[i]);
                if (to > from) {
                    felt += rate[i] * (to - from);
                    from = to;
                }
            }
            return felt;
        }

        /** The wage whose FEELING is just upper over lower; both are 0 or more, lower 1 or more. */
        void wageOf(long upper, long lower, Fraction into) {
            long from = 0;
            long felt = 0;
            int i = 0;
            for (; i < rates - 1; i++) {
                long reach = felt + rate[i] * (mark[i] - from);
                if (upper <= reach * lower) {
                    break;
                }
                felt = reach;
                from = mark[i];
            }
            into.become(upper - felt * lower + from * rate[i] * lower, rate[i] * lower);
        }

        int worthAt(int a, int[] paid) {
            int sum = -whole * costs[a];
            for (int s = 0; s < signs; s++) {
                sum += chances[a][s] * feltOf(paid[s]);
            }
            return sum;
        }

        int leftAt(int a, int[] paid) {
            int sum = 0;
            for (int s = 0; s < signs; s++) {
                sum += chances[a][s] * (brings[s] - paid[s]);
            }
            return sum;
        }

        int doneAt(int[] paid) {
            int done = 0;
            for (int a = 1; a < works; a++) {
                int more = Integer.compare(worthAt(a, paid), worthAt(done, paid));
                if (more > 0 || (more == 0 && leftAt(a, paid) > leftAt(done, paid))) {
                    done = a;
                }
            }
            return done;
        }

        /**
         * How much more than at least alone must be felt of a WORK's wages in the mean: more than of
         * another one's, to make up for its costs; in the WORK's own place, to reach else.
         */
        int lackOf(int a, int b) {
            return b == a ? costs[a] + otherwise - feltOf(least) : costs[a] - costs[b];
        }

        int broughtBy(int a) {
            int sum = 0;
            for (int s = 0; s < signs; s++) {
                sum += chances[a][s] * brings[s];
            }
            return sum;
        }

        /** The chance, under a WORK, of SIGNS that bring as much as one or more. */
        int chanceFrom(int a, int bar) {
            int sum = 0;
            for (int s = 0; s < signs; s++) {
                if (brings[s] >= brings[bar]) {
                    sum += chances[a][s];
                }
            }
            return sum;
        }
    }

    /** THE TAPE, and how it is read into a HIRE, one TOKEN at a time, up to the first FAULT. */
    static final class Reader {
        static final int SYNTAX = 1;
        static final int OUT_OF_BOUNDS = 2;
        static final int TWICE = 3;
        static final int ROOM = 4;
        static final int SUM = 5;

        static final int AT_END = 0;
        static final int WORD = 1;
        static final int NUMBER = 2;
        static final int SEMICOLON = 3;
        static final int NO_TOKEN = 4;
        static final int BLANK = 5;
        static final int MOST_LETTERS = 8;
        static final int MOST_DIGITS = 4;

        int length = 0;
        int faultKind = 0;
        int faultPlace = NONE;
        Hire into = new Hire();
        private final byte[] text = new byte[MOST_BYTES];
        private int next = 0;
        private int token = AT_END;
        private int start = 0;
        private int value = 0;
        private final int[] nameStart = new int[MOST_WORKS];
        private final int[] nameEnd = new int[MOST_WORKS];
        private boolean hasElse = false;
        private boolean hasLeast = false;
        private boolean hasFeel = false;

        void append(int four) {
            for (int shift = 24; shift >= 0 && length < MOST_BYTES; shift -= 8) {
                text[length] = (byte) (four >>> shift);
                length++;
            }
        }

        boolean readText() {
            next = 0;
            into.clear();
            hasElse = false;
            hasLeast = false;
            hasFeel = false;
            faultKind = 0;
            faultPlace = NONE;
            advance();
            return readWhole() && readSigns() && readWorks() && readRests();
        }

        private boolean fail(int kind) {
            faultKind = kind;
            faultPlace = start;
            return false;
        }

        private boolean readWhole() {
            if (!isWord("whole")) {
                return true;
            }
            advance();
            if (!isNumber(2, 10)) {
                return false;
            }
            into.whole = value;
            advance();
            return passSemicolon();
        }

        private boolean readSigns() {
            while (into.signs <= MOST_SIGNS && isWord("sign")) {
                if (into.signs == MOST_SIGNS) {
                    return fail(ROOM);
                }
                if (!readSign()) {
                    return false;
                }
                into.signs++;
            }
            return into.signs >= 2 || fail(SYNTAX);
        }

        private boolean readSign() {
            advance();
            if (!passName(into.signs) || !passWord("brings") || !isNumber(0, 999)) {
                return false;
            }
            into.brings[into.signs] = value;
            advance();
            return passSemicolon();
        }

        private boolean readWorks() {
            while (into.works <= MOST_WORKS && isWord("work")) {
                if (into.works == MOST_WORKS) {
                    return fail(ROOM);
                }
                if (!readWork()) {
                    return false;
                }
                into.works++;
            }
            return into.works >= 2 || fail(SYNTAX);
        }

        private boolean readWork() {
            advance();
            if (!passName(into.works) || !passWord("costs") || !isNumber(0, 99)) {
                return false;
            }
            into.costs[into.works] = value;
            advance();
            return passWord("chances") && readChances(into.chances[into.works]) && passSemicolon();
        }

        private boolean readChances(int[] row) {
            int sum = 0;
            for (int s = 0; s < into.signs; s++) {
                if (!isNumber(0, into.whole)) {
                    return false;
                }
                row[s] = value;
                sum += value;
                if (s == into.signs - 1 && sum != into.whole) {
                    return fail(SUM);
                }
                advance();
            }
            return true;
        }

        private boolean readRests() {
            boolean isFine = true;
            // Each REST comes once at most: the fourth one ends the loop by its FAULT.
            for (int rest = 0; rest < 4 && isFine && token != AT_END; rest++) {
                if (isWord("else")) {
                    isFine = readNumberOnce(hasElse);
                    hasElse = true;
                    into.otherwise = value;
                } else if (isWord("least")) {
                    isFine = readNumberOnce(hasLeast);
                    hasLeast = true;
                    into.least = value;
                } else if (isWord("feel")) {
                    isFine = readFeel();
                } else {
                    isFine = fail(SYNTAX);
                }
            }
            return isFine;
        }

        /** The N behind else or least; it stays the value. */
        private boolean readNumberOnce(boolean isAgain) {
            if (isAgain) {
                return fail(TWICE);
            }
            advance();
            if (!isNumber(0, 99)) {
                return false;
            }
            advance();
            return passSemicolon();
        }

        private boolean readFeel() {
            if (hasFeel) {
                return fail(TWICE);
            }
            hasFeel = true;
            advance();
            if (!isNumber(1, 5)) {
                return false;
            }
            into.rate[0] = value;
            advance();
            while (token == NUMBER && into.rates <= MOST_RATES) {
                if (!readStep(into.rates)) {
                    return false;
                }
                into.rates++;
            }
            return passSemicolon();
        }

        /** A MARK and the RATE behind it, which is the RATE of that number. */
        private boolean readStep(int number) {
            int lowest = number < 2 ? 1 : into.mark[number - 2] + 1;
            if (!isNumber(lowest, 99)) {
                return false;
            }
            if (number >= MOST_RATES) {
                return fail(ROOM);
            }
            into.mark[number - 1] = value;
            advance();
            if (!isNumber(1, into.rate[number - 1] - 1)) {
                return false;
            }
            into.rate[number] = value;
            advance();
            return true;
        }

        /** Whether the TOKEN is an N within its bounds; else its FAULT is noted. */
        private boolean isNumber(int lowest, int highest) {
            if (token != NUMBER) {
                return fail(SYNTAX);
            }
            value = 0;
            for (int i = start; i < next; i++) {
                value = value * 10 + text[i] - '0';
            }
            return (value >= lowest && value <= highest) || fail(OUT_OF_BOUNDS);
        }

        private boolean passSemicolon() {
            if (token != SEMICOLON) {
                return fail(SYNTAX);
            }
            advance();
            return true;
        }

        private boolean passWord(String word) {
            if (!isWord(word)) {
                return fail(SYNTAX);
            }
            advance();
            return true;
        }

        /** The name of the SIGN or WORK of that number, unlike those of its kind ahead of it. */
        private boolean passName(int number) {
            if (token != WORD) {
                return fail(SYNTAX);
            }
            for (int i = 0; i < number; i++) {
                if (isSameRun(nameStart[i], nameEnd[i])) {
                    return fail(TWICE);
                }
            }
            nameStart[number] = start;
            nameEnd[number] = next;
            advance();
            return true;
        }

        private boolean isSameRun(int from, int to) {
            if (to - from != next - start) {
                return false;
            }
            for (int i = 0; i < to - from; i++) {
                if (text[from + i] != text[start + i]) {
                    return false;
                }
            }
            return true;
        }

        private boolean isWord(String word) {
            if (token != WORD || word.length() != next - start) {
                return false;
            }
            for (int i = 0; i < word.length(); i++) {
                if (text[start + i] != word.charAt(i)) {
                    return false;
                }
            }
            return true;
        }

        private void advance() {
            while (next < length && kindOf(text[next]) == BLANK) {
                next++;
            }
            start = next;
            if (next >= length) {
                token = AT_END;
                return;
            }
            token = kindOf(text[next]);
            next++;
            if (token == WORD || token == NUMBER) {
                takeRun();
            }
        }

        /** All of a run belongs to one TOKEN, and one that is too long is none. */
        private void takeRun() {
            while (next < length && kindOf(text[next]) == token) {
                next++;
            }
            int most = token == WORD ? MOST_LETTERS : MOST_DIGITS;
            if (next - start > most) {
                token = NO_TOKEN;
            }
        }

        private static int kindOf(byte sign) {
            if (sign >= 'a' && sign <= 'z') {
                return WORD;
            }
            if (sign >= '0' && sign <= '9') {
                return NUMBER;
            }
            if (sign == ' ' || sign == '\n') {
                return BLANK;
            }
            return sign == ';' ? SEMICOLON : NO_TOKEN;
        }
    }

    /**
     * The dual simplex method in whole numbers. Each line tells: base times its name's number is column 0
     * less the sum of entry times number over the other columns. The first lines are goals, to be made
     * small one behind another; the others are numbers that must not fall below 0. The entries are
     * minors of the first table, so that each division by base leaves nothing over.
     */
    static final class Table {
        static final int MOST_COLUMNS = MOST_SIGNS * MOST_RATES;
        static final int MOST_LINES = 1 + MOST_SIGNS + MOST_WORKS + MOST_SIGNS * (MOST_RATES - 1);
        // Bland's rule never comes to the same table twice; far fewer turns than this are ever needed.
        static final int MOST_TURNS = 1000000;

        final long[][] entry = new long[MOST_LINES][MOST_COLUMNS + 1];
        final int[] lineName = new int[MOST_LINES];
        final int[] columnName = new int[MOST_COLUMNS + 1];
        int goals;
        int lines;
        int columns;
        long base;

        void start(int newGoals, int newLines, int newColumns) {
            goals = Math.min(newGoals, MOST_LINES);
            lines = Math.min(newLines, MOST_LINES);
            columns = Math.min(newColumns, MOST_COLUMNS);
            base = 1;
            for (int i = 0; i < lines; i++) {
                Arrays.fill(entry[i], 0);
                lineName[i] = columns + i;
            }
            for (int j = 1; j <= columns; j++) {
                columnName[j] = j - 1;
            }
        }

        /** Whether the goals have a least: if so, the lines tell the numbers with which it is met. */
        boolean solve() {
            for (int turn = 0; turn < MOST_TURNS; turn++) {
                int line = lineBelowZero();
                if (line < 0) {
                    return true;
                }
                int column = columnFor(line);
                if (column < 0) {
                    return false;
                }
                pivot(line, column);
            }
            return false;
        }

        private int lineBelowZero() {
            int found = -1;
            for (int i = goals; i < lines; i++) {
                if (entry[i][0] < 0 && (found < 0 || lineName[i] < lineName[found])) {
                    found = i;
                }
            }
            return found;
        }

        private int columnFor(int line) {
            int found = -1;
            for (int j = 1; j <= columns; j++) {
                if (entry[line][j] >= 0) {
                    continue;
                }
                int order = found < 0 ? -1 : compareRatios(line, j, found);
                if (order < 0 || (order == 0 && columnName[j] < columnName[found])) {
                    found = j;
                }
            }
            return found;
        }

        private int compareRatios(int line, int one, int other) {
            long byOne = entry[line][one];
            long byOther = entry[line][other];
            for (int g = 0; g < goals; g++) {
                long ofOne = entry[g][one] * byOther;
                long ofOther = entry[g][other] * byOne;
                if (ofOne != ofOther) {
                    return ofOne < ofOther ? -1 : 1;
                }
            }
            return 0;
        }

        private void pivot(int line, int column) {
            long[] turned = entry[line];
            long size = -turned[column];
            if (size < 1 || base < 1) {
                return;
            }
            for (int i = 0; i < lines; i++) {
                if (i != line) {
                    changeLine(entry[i], turned, column, size);
                }
            }
            for (int j = 0; j <= columns; j++) {
                turned[j] = -turned[j];
            }
            turned[column] = -base;
            base = size;
            int name = lineName[line];
            lineName[line] = columnName[column];
            columnName[column] = name;
        }

        private void changeLine(long[] changed, long[] turned, int column, long size) {
            long own = changed[column];
            for (int j = 0; j <= columns; j++) {
                if (j != column && base != 0) {
                    changed[j] = (size * changed[j] + own * turned[j]) / base;
                }
            }
        }
    }

    /**
     * LEAST COST of a WORK. Its numbers are how much more than least is felt of a SIGN's wage, step of
     * RATES by step; as the RATES fall, a dearer step is never used ahead of a cheaper one. A SIGN that
     * never comes under the WORK is paid least: more would only be felt under other WORKS.
     */
    static final class LeastCost {
        // Each RATE divides this.
        static final int PARTS = 60;

        final long[] above = new long[MOST_SIGNS];
        private long aboveLower = 1;
        private final Table table = new Table();
        private final int[] columnSign = new int[Table.MOST_COLUMNS];
        private final int[] columnRate = new int[Table.MOST_COLUMNS];
        private final int[] columnRoom = new int[Table.MOST_COLUMNS];
        private int columns = 0;
        private int rooms = 0;
        private Hire hire = new Hire();
        private int work = 0;
        private int keptSign = NONE;
        private int joinedSign = NONE;

        boolean findCost(Hire of, int a) {
            return find(of, a, NONE, NONE, 1);
        }

        boolean findWages(Hire of, int a) {
            return find(of, a, NONE, NONE, 1 + of.signs);
        }

        boolean findMerged(Hire of, int a, int s, int t) {
            return find(of, a, s, t, 1);
        }

        void costInto(Fraction into) {
            long sum = 0;
            for (int s = 0; s < hire.signs; s++) {
                sum += chanceOf(work, s) * above[s];
            }
            into.become(sum, hire.whole * aboveLower);
            into.add(hire.least, 1);
        }

        void wageInto(Fraction into, int s) {
            into.become(hire.least * aboveLower + above[s], aboveLower);
        }

        private boolean find(Hire of, int a, int kept, int joined, int goals) {
            hire = of;
            work = a;
            keptSign = kept;
            joinedSign = joined;
            listColumns();
            table.start(goals, goals + hire.works + rooms, columns);
            fillGoals(goals);
            fillLines(goals);
            fillRooms(goals + hire.works);
            if (!table.solve()) {
                return false;
            }
            readWages();
            return true;
        }

        private int chanceOf(int b, int s) {
            if (s == joinedSign) {
                return 0;
            }
            return s == keptSign ? hire.chances[b][s] + hire.chances[b][joinedSign] : hire.chances[b][s];
        }

        private void listColumns() {
            columns = 0;
            rooms = 0;
            for (int s = 0; s < hire.signs; s++) {
                if (chanceOf(work, s) > 0) {
                    listSteps(s);
                }
            }
        }

        private void listSteps(int s) {
            int from = hire.least;
            for (int i = 0; i < hire.rates && columns < Table.MOST_COLUMNS; i++) {
                boolean isLast = i == hire.rates - 1;
                if (!isLast && hire.mark[i] <= from) {
                    continue;
                }
                columnSign[columns] = s;
                columnRate[columns] = hire.rate[i];
                columnRoom[columns] = isLast ? NONE : (hire.mark[i] - from) * hire.rate[i];
                columns++;
                if (!isLast) {
                    from = hire.mark[i];
                    rooms++;
                }
            }
        }

        /** The cost first, then the wages as the SIGNS are numbered. */
        private void fillGoals(int goals) {
            for (int j = 0; j < columns; j++) {
                int s = columnSign[j];
                int coins = partsOf(j);
                table.entry[0][j + 1] = -(long) coins * chanceOf(work, s);
                if (1 + s < goals) {
                    table.entry[1 + s][j + 1] = -coins;
                }
            }
        }

        private int partsOf(int j) {
            return columnRate[j] < 1 ? 0 : PARTS / columnRate[j];
        }

        private void fillLines(int first) {
            for (int b = 0; b < hire.works; b++) {
                long[] line = table.entry[first + b];
                line[0] = -(long) hire.whole * hire.lackOf(work, b);
                for (int j = 0; j < columns; j++) {
                    int s = columnSign[j];
                    line[j + 1] = (b == work ? 0 : chanceOf(b, s)) - chanceOf(work, s);
                }
            }
        }

        private void fillRooms(int first) {
            int line = first;
            for (int j = 0; j < columns && line < Table.MOST_LINES; j++) {
                if (columnRoom[j] != NONE) {
                    table.entry[line][0] = columnRoom[j];
                    table.entry[line][j + 1] = 1;
                    line++;
                }
            }
        }

        private void readWages() {
            Arrays.fill(above, 0);
            aboveLower = PARTS * table.base;
            for (int i = table.goals; i < table.lines; i++) {
                int name = table.lineName[i];
                if (name < columns) {
                    above[columnSign[name]] += table.entry[i][0] * partsOf(name);
                }
            }
        }
    }

    /** The least sum for which some shares of its FEELING above least's are as great as they must be. */
    static final class OneSum {
        private long lowUpper;
        private long lowLower;
        private long capUpper;
        private long capLower;
        private boolean isBroken;

        /**
         * Paid for SIGNS from a bar on: by weight over all times the chance of these SIGNS, so that
         * one hand (weight 1, all is whole) and two (the other one's chance, all is whole by whole) are one.
         */
        boolean settle(Hire hire, int a, int bar, int weight, int all) {
            start();
            int good = hire.chanceFrom(a, bar);
            for (int b = 0; b < hire.works; b++) {
                int more = good - (b == a ? 0 : hire.chanceFrom(b, bar));
                need((long) more * weight, (long) all * hire.lackOf(a, b));
            }
            return isMet();
        }

        /** Paid for all SIGNS, but not if he is watched, by q over whole, at another WORK. */
        boolean settleWatched(Hire hire, int a, int q) {
            start();
            for (int b = 0; b < hire.works; b++) {
                need(b == a ? hire.whole : q, (long) hire.whole * hire.lackOf(a, b));
            }
            return isMet();
        }

        /** What is paid in the mean: the sum in some ways of all, least in the others. */
        void meanInto(Fraction into, Hire hire, int ways, int all) {
            long felt = hire.feltOf(hire.least);
            hire.wageOf(felt * lowLower + lowUpper, lowLower, into);
            long paid = ways * into.upper + (long) (all - ways) * hire.least * into.lower;
            into.become(paid, all * into.lower);
        }

        private void start() {
            lowUpper = 0;
            lowLower = 1;
            capUpper = 0;
            capLower = 0;
            isBroken = false;
        }

        private void need(long share, long sum) {
            if (share > 0 && sum * lowLower > lowUpper * share) {
                lowUpper = sum;
                lowLower = share;
            }
            if (share == 0 && sum > 0) {
                isBroken = true;
            }
            if (share < 0 && (capLower == 0 || sum * capLower > capUpper * share)) {
                capUpper = -sum;
                capLower = -share;
            }
        }

        private boolean isMet() {
            boolean isUnderCap = capLower == 0 || lowUpper * capLower <= capUpper * lowLower;
            return !isBroken && isUnderCap;
        }
    }

    /** COINS: wages are tried by SIGNS from the lowest on, so that of alike costs the first one stays. */
    static final class CoinSearch {
        // Above any cost: no SIGN's chance times its coins comes near it.
        static final int NO_COST = 1000000;

        final int[] chosen = new int[MOST_SIGNS];
        int bestCost = NO_COST;
        private final int[] felt = new int[MOST_COINS + 1];
        private final int[] own = new int[MOST_SIGNS];
        private final int[][] share = new int[MOST_WORKS][MOST_SIGNS];
        // What all the SIGNS from one on can add to a line at the most.
        private final int[][] rest = new int[MOST_WORKS][MOST_SIGNS + 1];
        // What a line still needs when the SIGNS ahead of one have their wages.
        private final int[][] left = new int[MOST_SIGNS + 1][MOST_WORKS];
        private final int[] tried = new int[MOST_SIGNS];
        private int signs;
        private int lines;
        private int most;

        boolean find(Hire hire, int a, int newMost) {
            signs = hire.signs;
            lines = hire.works;
            most = Math.min(newMost, MOST_COINS);
            bestCost = NO_COST;
            fillFelt(hire);
            for (int b = 0; b < lines; b++) {
                fillLine(hire, a, b);
            }
            for (int s = 0; s < signs; s++) {
                own[s] = hire.chances[a][s];
            }
            place(0, 0);
            return bestCost != NO_COST;
        }

        private void fillFelt(Hire hire) {
            int atLeast = hire.feltOf(hire.least);
            for (int coin = 0; coin <= MOST_COINS; coin++) {
                felt[coin] = hire.feltOf(hire.least + coin) - atLeast;
            }
        }

        private void fillLine(Hire hire, int a, int b) {
            left[0][b] = hire.whole * hire.lackOf(a, b);
            rest[b][signs] = 0;
            for (int s = signs - 1; s >= 0; s--) {
                share[b][s] = hire.chances[a][s] - (b == a ? 0 : hire.chances[b][s]);
                rest[b][s] = rest[b][s + 1] + Math.max(0, share[b][s]) * felt[most];
            }
        }

        /** The depth is that of the SIGNS, four at the most. */
        private void place(int s, int cost) {
            if (s >= signs) {
                bestCost = cost;
                System.arraycopy(tried, 0, chosen, 0, signs);
                return;
            }
            int last = lastCoin(s);
            for (int coin = firstCoin(s); coin <= last; coin++) {
                int costThen = cost + own[s] * coin;
                if (costThen >= bestCost) {
                    return;
                }
                tried[s] = coin;
                for (int b = 0; b < lines; b++) {
                    left[s + 1][b] = left[s][b] - share[b][s] * felt[coin];
                }
                if (canBeCheaper(s + 1, costThen)) {
                    place(s + 1, costThen);
                }
            }
        }

        /** No line's need can be met cheaper than by the SIGN that helps it most for its cost. */
        private boolean canBeCheaper(int from, int cost) {
            long room = (long) bestCost - cost;
            for (int b = 0; b < lines; b++) {
                int help = 0;
                int price = 1;
                for (int s = from; s < signs; s++) {
                    if (share[b][s] * price > help * own[s]) {
                        help = share[b][s];
                        price = own[s];
                    }
                }
                // The first coin is felt most.
                if (help > 0 && left[from][b] > 0 && (long) left[from][b] * price >= room * help * felt[1]) {
                    return false;
                }
            }
            return true;
        }

        private int firstCoin(int s) {
            int coin = 0;
            for (int b = 0; b < lines; b++) {
                while (coin <= most && share[b][s] >= 0 && isShort(b, s, coin)) {
                    coin++;
                }
            }
            return coin;
        }

        /** A SIGN that never comes under the WORK is paid least: more would only be felt under others. */
        private int lastCoin(int s) {
            int coin = own[s] == 0 ? 0 : most;
            for (int b = 0; b < lines; b++) {
                while (coin >= 0 && share[b][s] < 0 && isShort(b, s, coin)) {
                    coin--;
                }
            }
            return coin;
        }

        private boolean isShort(int b, int s, int coin) {
            return left[s][b] > share[b][s] * felt[coin] + rest[b][s + 1];
        }
    }

    /** PRESS and MIX, and what they prove. */
    static final class Proofs {
        int lowerNumber = 1;
        private final int[] press = new int[MOST_WORKS];
        private int pressOfElse = 0;
        private final int[] mixed = new int[MOST_WORKS];

        void forget() {
            lowerNumber = 1;
            pressOfElse = 0;
            Arrays.fill(press, 0);
            Arrays.fill(mixed, 0);
        }

        int changePress(int b, int n) {
            int earlier = press[b];
            press[b] = n;
            return earlier;
        }

        int changeElse(int n) {
            int earlier = pressOfElse;
            pressOfElse = n;
            return earlier;
        }

        int changeMix(int b, int n) {
            int earlier = mixed[b];
            mixed[b] = n;
            return earlier;
        }

        /** Tells what PRESS proves of a WORK; all is counted times D and whole. */
        boolean boundInto(Fraction into, Hire hire, int a) {
            long sum = (long) pressOfElse * (hire.costs[a] + hire.otherwise);
            for (int b = 0; b < hire.works; b++) {
                sum += (long) press[b] * (hire.costs[a] - hire.costs[b]);
            }
            sum *= hire.whole;
            for (int s = 0; s < hire.signs; s++) {
                long own = (long) hire.chances[a][s] * lowerNumber;
                long pressed = pressedAt(hire, a, s);
                if (own < hire.rate[hire.rates - 1] * pressed) {
                    return false;
                }
                sum += leastOf(hire, own, pressed);
            }
            into.become(sum, (long) lowerNumber * hire.whole);
            return true;
        }

        private long pressedAt(Hire hire, int a, int s) {
            long sum = (long) pressOfElse * hire.chances[a][s];
            for (int b = 0; b < hire.works; b++) {
                sum += (long) press[b] * (hire.chances[a][s] - hire.chances[b][s]);
            }
            return sum;
        }

        /** The least of own times wage less pressed times FEELING: at least or at a MARK above it. */
        private static long leastOf(Hire hire, long own, long pressed) {
            long lowest = own * hire.least - pressed * hire.feltOf(hire.least);
            for (int i = 0; i < hire.rates - 1; i++) {
                int w = hire.mark[i];
                if (w > hire.least) {
                    lowest = Math.min(lowest, own * w - pressed * hire.feltOf(w));
                }
            }
            return lowest;
        }

        boolean isRuledOut(Hire hire, int a) {
            int sum = 0;
            int costs = 0;
            for (int b = 0; b < hire.works; b++) {
                if (b != a) {
                    sum += mixed[b];
                    costs += mixed[b] * hire.costs[b];
                }
            }
            for (int s = 0; s < hire.signs; s++) {
                if (mixedChance(hire, a, s) != sum * hire.chances[a][s]) {
                    return false;
                }
            }
            // A MIX of nothing costs 0, not less than 0 times the WORK's costs.
            return costs < sum * hire.costs[a];
        }

        private int mixedChance(Hire hire, int a, int s) {
            int sum = 0;
            for (int b = 0; b < hire.works; b++) {
                if (b != a) {
                    sum += mixed[b] * hire.chances[b][s];
                }
            }
            return sum;
        }
    }

    /** SEEN SIGNS with the STEPS at which they were told and put RIGHT. */
    static final class Diary {
        int seen = 0;
        int rights = 0;
        private int latestStep = 0;
        private final int[] seenStep = new int[MOST_SEEN];
        private final int[] seenSign = new int[MOST_SEEN];
        private final int[] timesRight = new int[MOST_SEEN];
        private final int[] rightStep = new int[MOST_RIGHTS];
        private final int[] rightOf = new int[MOST_RIGHTS];
        private final int[] rightSign = new int[MOST_RIGHTS];

        void forget() {
            seen = 0;
            rights = 0;
            latestStep = 0;
        }

        boolean canTell(int step) {
            return step >= latestStep && step <= LAST_STEP;
        }

        boolean canCorrect(int step, int k) {
            return k >= 0 && k < seen && step > seenStep[k];
        }

        int write(int step, int s) {
            if (seen >= MOST_SEEN) {
                return FULL;
            }
            latestStep = step;
            seenStep[seen] = step;
            seenSign[seen] = s;
            timesRight[seen] = 0;
            seen++;
            return seen - 1;
        }

        int correct(int step, int k, int s) {
            if (rights >= MOST_RIGHTS) {
                return FULL;
            }
            latestStep = step;
            rightStep[rights] = step;
            rightOf[rights] = k;
            rightSign[rights] = s;
            rights++;
            timesRight[k]++;
            return timesRight[k];
        }

        long productOf(Hire hire, int a, int known) {
            long product = 1;
            for (int k = 0; k < seen; k++) {
                if (seenStep[k] <= known) {
                    product *= hire.chances[a][signKnown(k, known)];
                }
            }
            return product;
        }

        private int signKnown(int k, int known) {
            int s = seenSign[k];
            for (int i = 0; i < rights; i++) {
                if (rightOf[i] == k && rightStep[i] <= known) {
                    s = rightSign[i];
                }
            }
            return s;
        }
    }
}
