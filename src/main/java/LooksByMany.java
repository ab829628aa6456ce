/**
 * Pictures that are smooth or have arms that turn left or right, looked at by many:
 * who says what, what that tells of the pictures and of the lookers, and what to ask next.
 */
public final class LooksByMany {
    public static final int NONE = -1, UNKNOWN = -1001, OUTSIDE = -1002, NOT = -1003, FULL = -1004;

    private static final int SMOOTH = 0, LEFT = 1, RIGHT = 2, KINDS = 3;
    private static final int NONE_OF_THESE = 3, ANSWERS = 4;
    private static final int FAR = 1, DEEPEST = 9;
    private static final int LEANING = 1, TIRED = 2, RANDOM = 3, MACHINE = 4, ASKING = 5;
    private static final int BY_NUMBER = 0, BY_LEAST_ODDS = 1, BY_DEPTH = 2;
    private static final int SHARP_LAW = 0, FAR_LAW = 1, LEAN_LAW = 2, TIRE_LAW = 3;
    private static final int LINE_LAW = 4, MOST_LAW = 5, PATIENCE_LAW = 6, SURE_LAW = 7, LAWS = 8;
    private static final int MOST_PICTURES = 24, MOST_LOOKERS = 8, MOST_LOOKS = 200;
    private static final int MOST_TURNS = 20, LOOKS_THAT_COUNT = 6, MOST_ROUNDS = 40;
    private static final int WHOLE = 1000, TENTHS = 10, HUNDRED = 100;
    private static final int EASY_DEPTH = 4, ASKED_DEPTH = 8, MACHINE_GUESS = 34;
    private static final int ONE_AT_LEAST = 5;

    private final Laws laws;
    private final Draws draws;
    private final Pictures pictures;
    private final Lookers lookers;
    private final Looks looks;
    private final Reckoning reckoning;
    private final Questions questions;

    public LooksByMany() {
        laws = new Laws();
        draws = new Draws();
        pictures = new Pictures();
        lookers = new Lookers();
        looks = new Looks();
        reckoning = new Reckoning();
        questions = new Questions();
    }

    // ---- pictures, lookers, laws

    public int picture(int kind, int far, int depth, boolean known) {
        if (!isKind(kind) || !isWithin(far, 0, FAR) || !isWithin(depth, 0, DEEPEST)) {
            return OUTSIDE;
        }
        return pictures.add(kind, far, depth, known, NONE);
    }

    public int mirror(int p) {
        if (!pictures.has(p)) {
            return UNKNOWN;
        }
        if (pictures.originalOf(p) != NONE) {
            return NOT;
        }
        return pictures.add(turned(pictures.kindOf(p)), pictures.farOf(p), pictures.depthOf(p), false, p);
    }

    public int looker(int sort) {
        if (!isWithin(sort, 0, ASKING)) {
            return OUTSIDE;
        }
        return lookers.add(sort);
    }

    public int feed(int n, long bytes) {
        if (!isWithin(n, 1, Laws.MOST_AT_ONCE)) {
            return OUTSIDE;
        }
        return laws.append(n, bytes);
    }

    public int read() {
        return laws.takeText();
    }

    public int fault() {
        return laws.faultPlace();
    }

    public int law(int what) {
        return isWithin(what, 0, LAWS - 1) ? laws.valueOf(what) : OUTSIDE;
    }

    public int count(int what) {
        switch (what) {
            case 0:
                return pictures.size();
            case 1:
                return lookers.size();
            case 2:
                return looks.size();
            case 3:
                return pictures.knownOnes();
            case 4:
                return pictures.mirrors();
            case 5:
                return doneOnes();
            case 6:
                return laws.textSize();
            case 7:
                return stayingOnes();
            case 8:
                return reckoning.rounds();
            default:
                return OUTSIDE;
        }
    }

    public int told(int p, int what) {
        if (!pictures.has(p)) {
            return UNKNOWN;
        }
        switch (what) {
            case 0:
                return pictures.kindOf(p);
            case 1:
                return pictures.farOf(p);
            case 2:
                return pictures.depthOf(p);
            case 3:
                return oneIf(pictures.isKnown(p));
            case 4:
                return pictures.originalOf(p);
            case 5:
                return looks.howManyAt(p);
            case 6:
                return looks.greensAt(p);
            case 7:
                return oneIf(isDone(p));
            default:
                return OUTSIDE;
        }
    }

    // ---- looks, evenings

    public int seed(int v) {
        return v < 0 ? OUTSIDE : draws.begin(v);
    }

    public int look(int l, int p, int answer) {
        if (!lookers.has(l) || !pictures.has(p)) {
            return UNKNOWN;
        }
        if (!isWithin(answer, 0, NONE_OF_THESE)) {
            return OUTSIDE;
        }
        if (looks.answerAt(l, p) != NONE) {
            return NOT;
        }
        return looks.add(l, p, answer);
    }

    public int says(int l, int p) {
        if (!lookers.has(l) || !pictures.has(p)) {
            return UNKNOWN;
        }
        if (looks.answerAt(l, p) != NONE) {
            return NOT;
        }
        // looked at before the draws: a refusal must leave the seed as it is
        if (looks.isFull()) {
            return FULL;
        }
        return lookByDraws(l, p);
    }

    public int about(int k, int what) {
        if (!looks.has(k)) {
            return UNKNOWN;
        }
        switch (what) {
            case 0:
                return looks.lookerOf(k);
            case 1:
                return looks.pictureOf(k);
            case 2:
                return looks.answerOf(k);
            case 3:
                return oneIf(looks.counts(k));
            default:
                return OUTSIDE;
        }
    }

    public int next(int l, int rule) {
        if (!lookers.has(l)) {
            return UNKNOWN;
        }
        return isRule(rule) ? shownNext(l, rule) : OUTSIDE;
    }

    public int evening(int set, int n, int rule) {
        if (!isPart(set, lookers.size())) {
            return UNKNOWN;
        }
        if (!isWithin(n, 1, MOST_TURNS) || !isRule(rule)) {
            return OUTSIDE;
        }
        int before = looks.size();
        for (int turn = 0; turn < n; turn++) {
            takeTurn(set, rule);
        }
        return looks.size() - before;
    }

    public int stays(int l) {
        return lookers.has(l) ? oneIf(keepsOn(l)) : UNKNOWN;
    }

    // ---- reckoned

    public int reckon() {
        return reckoning.settle(pictures, looks);
    }

    public int odds(int p, int kind) {
        if (!pictures.has(p)) {
            return UNKNOWN;
        }
        return isKind(kind) ? reckoning.oddsOf(p, kind) : OUTSIDE;
    }

    public int table(int l, int kind, int answer) {
        if (!lookers.has(l)) {
            return UNKNOWN;
        }
        if (!isKind(kind) || !isWithin(answer, 0, NONE_OF_THESE)) {
            return OUTSIDE;
        }
        return reckoning.tableOf(l, kind, answer);
    }

    public int sky(int kind) {
        return isKind(kind) ? reckoning.skyOf(kind) : OUTSIDE;
    }

    public int far(int h, int kind) {
        if (!isWithin(h, 0, HUNDRED) || !isKind(kind)) {
            return OUTSIDE;
        }
        int more = farShare(SMOOTH) * h / HUNDRED / 2;
        return kind == SMOOTH ? farShare(SMOOTH) - 2 * more : farShare(kind) + more;
    }

    // ---- leans, ones, machines

    public int lean(int l, int what) {
        if (!lookers.has(l)) {
            return UNKNOWN;
        }
        if (!isWithin(what, 0, 1)) {
            return OUTSIDE;
        }
        int pairs = mirrorPairs(l, LEFT, LEFT) + mirrorPairs(l, RIGHT, RIGHT)
                + mirrorPairs(l, LEFT, RIGHT) + mirrorPairs(l, RIGHT, LEFT);
        if (what == 1) {
            return pairs;
        }
        if (pairs == 0) {
            return NONE;
        }
        return WHOLE + (mirrorPairs(l, LEFT, LEFT) - mirrorPairs(l, RIGHT, RIGHT)) * HUNDRED / pairs;
    }

    public int agreed(int l, int m, int what) {
        if (!lookers.has(l) || !lookers.has(m) || l == m) {
            return UNKNOWN;
        }
        switch (what) {
            case 0:
                return alikeAnswers(l, m);
            case 1:
                return sharedPictures(l, m);
            case 2:
                return oneIf(mayBeOne(l, m));
            default:
                return OUTSIDE;
        }
    }

    public int green(int i) {
        if (i < 0) {
            return OUTSIDE;
        }
        for (int p = 0; p < pictures.size(); p++) {
            if (looks.greensAt(p) > 0 && greenerThan(p) == i) {
                return p;
            }
        }
        return NONE;
    }

    public int given(int what) {
        switch (what) {
            case 0:
                return givenPictures();
            case 1:
                return looksOfOthersAtGiven();
            case 2:
                return wronglyGivenPictures();
            default:
                return OUTSIDE;
        }
    }

    // ---- trees

    public int things(int n) {
        return isWithin(n, Questions.FEWEST_THINGS, Questions.MOST_THINGS) ? questions.restart(n) : OUTSIDE;
    }

    public int weight(int t, int v) {
        if (!questions.hasThing(t) || !isWithin(v, 1, Questions.MOST_WEIGHT)) {
            return OUTSIDE;
        }
        return questions.changeWeight(t, v);
    }

    public int question(int k, int set) {
        if (!isWithin(k, 0, Questions.MOST_QUESTIONS - 1) || !isPart(set, questions.size())) {
            return OUTSIDE;
        }
        return questions.changeSet(k, set);
    }

    public int tree(int set, int what) {
        if (set == 0 || !isPart(set, questions.size())) {
            return OUTSIDE;
        }
        switch (what) {
            case 0:
                return questions.asksOf(set);
            case 1:
                return questions.firstOf(set);
            case 2:
                return questions.depthOf(set);
            default:
                return OUTSIDE;
        }
    }

    public int wrong(int t) {
        return questions.hasThing(t) ? questions.wrongTurn(t) : OUTSIDE;
    }

    // ---- what numbers may be

    private static boolean isWithin(int v, int least, int most) {
        return v >= least && v <= most;
    }

    private static boolean isKind(int kind) {
        return kind >= SMOOTH && kind <= RIGHT;
    }

    private static boolean isArm(int answer) {
        return answer == LEFT || answer == RIGHT;
    }

    private static boolean isRule(int rule) {
        return isWithin(rule, BY_NUMBER, BY_DEPTH);
    }

    // a set below 0 has bits that there are not: the shift leaves these
    private static boolean isPart(int set, int size) {
        return set >>> size == 0;
    }

    private static boolean isIn(int set, int i) {
        return (set >>> i & 1) == 1;
    }

    private static int oneIf(boolean yes) {
        return yes ? 1 : 0;
    }

    private static int turned(int kind) {
        return isArm(kind) ? LEFT + RIGHT - kind : kind;
    }

    // ---- what lookers say

    private int lookByDraws(int l, int p) {
        int answer = answerByDraws(l, p);
        looks.add(l, p, answer);
        return answer;
    }

    private int answerByDraws(int l, int p) {
        int sort = lookers.sortOf(l);
        if (sort == ASKING && pictures.depthOf(p) >= ASKED_DEPTH) {
            return NONE_OF_THESE;
        }
        if (sort == RANDOM) {
            return draws.drawKind();
        }
        int seen = seenByDraws(p, eyeOf(l, p));
        if (sort == LEANING && seen == RIGHT && draws.draw() < laws.valueOf(LEAN_LAW)) {
            return LEFT;
        }
        return seen;
    }

    private int seenByDraws(int p, int eye) {
        if (draws.draw() < eye) {
            return pictures.kindOf(p);
        }
        return pictures.farOf(p) == FAR ? SMOOTH : draws.drawKind();
    }

    private int eyeOf(int l, int p) {
        int sort = lookers.sortOf(l);
        if (sort == MACHINE) {
            return pictures.depthOf(p) <= EASY_DEPTH ? HUNDRED : MACHINE_GUESS;
        }
        int eye = laws.valueOf(pictures.farOf(p) == FAR ? FAR_LAW : SHARP_LAW);
        if (sort == TIRED) {
            return Math.max(0, eye - laws.valueOf(TIRE_LAW) * looks.howManyBy(l));
        }
        return eye;
    }

    // ---- whom to show what next, who stays

    private boolean isDone(int p) {
        return reckoning.greatestOddsOf(p) >= laws.valueOf(LINE_LAW) * TENTHS
                || looks.howManyAt(p) >= laws.valueOf(MOST_LAW);
    }

    private int doneOnes() {
        int n = 0;
        for (int p = 0; p < pictures.size(); p++) {
            n += oneIf(isDone(p));
        }
        return n;
    }

    private int shownNext(int l, int rule) {
        int best = NONE;
        for (int p = 0; p < pictures.size(); p++) {
            boolean isOpen = !isDone(p) && looks.answerAt(l, p) == NONE;
            if (isOpen && (best == NONE || isShownBefore(p, best, rule))) {
                best = p;
            }
        }
        return best;
    }

    // only for p of a greater number than q: of like ones q, the lesser number, stays first
    private boolean isShownBefore(int p, int q, int rule) {
        if (looks.howManyAt(p) != looks.howManyAt(q)) {
            return looks.howManyAt(p) < looks.howManyAt(q);
        }
        if (rule == BY_LEAST_ODDS) {
            return reckoning.greatestOddsOf(p) < reckoning.greatestOddsOf(q);
        }
        return rule == BY_DEPTH && pictures.depthOf(p) > pictures.depthOf(q);
    }

    private void takeTurn(int set, int rule) {
        for (int l = 0; l < lookers.size(); l++) {
            if (isIn(set, l) && !looks.isFull() && keepsOn(l)) {
                int p = shownNext(l, rule);
                if (p != NONE) {
                    lookByDraws(l, p);
                }
            }
        }
    }

    private boolean keepsOn(int l) {
        int patience = laws.valueOf(PATIENCE_LAW);
        int farInARow = 0;
        for (int k = looks.size() - 1; k >= 0 && farInARow < patience; k--) {
            if (looks.lookerOf(k) == l) {
                if (pictures.farOf(looks.pictureOf(k)) != FAR) {
                    return true;
                }
                farInARow++;
            }
        }
        return farInARow < patience;
    }

    private int stayingOnes() {
        int n = 0;
        for (int l = 0; l < lookers.size(); l++) {
            n += oneIf(keepsOn(l));
        }
        return n;
    }

    // ---- what looks and odds show

    private int farShare(int kind) {
        int sum = 0;
        for (int p = 0; p < pictures.size(); p++) {
            if (pictures.farOf(p) == FAR) {
                sum += reckoning.oddsOf(p, kind);
            }
        }
        return sum;
    }

    private int mirrorPairs(int l, int answer, int mirrored) {
        int n = 0;
        for (int p = 0; p < pictures.size(); p++) {
            int original = pictures.originalOf(p);
            if (original != NONE) {
                n += oneIf(looks.answerAt(l, original) == answer && looks.answerAt(l, p) == mirrored);
            }
        }
        return n;
    }

    private int sharedPictures(int l, int m) {
        int n = 0;
        for (int p = 0; p < pictures.size(); p++) {
            n += oneIf(looks.answerAt(l, p) != NONE && looks.answerAt(m, p) != NONE);
        }
        return n;
    }

    private int alikeAnswers(int l, int m) {
        int n = 0;
        for (int p = 0; p < pictures.size(); p++) {
            n += oneIf(looks.answerAt(l, p) != NONE && looks.answerAt(l, p) == looks.answerAt(m, p));
        }
        return n;
    }

    private boolean mayBeOne(int l, int m) {
        int shared = sharedPictures(l, m);
        return shared >= ONE_AT_LEAST && alikeAnswers(l, m) == shared;
    }

    private int greenerThan(int p) {
        int n = 0;
        for (int q = 0; q < pictures.size(); q++) {
            int more = looks.greensAt(q) - looks.greensAt(p);
            n += oneIf(more > 0 || more == 0 && q < p);
        }
        return n;
    }

    private boolean isSure(int p, int answer) {
        return isKind(answer) && reckoning.oddsOf(p, answer) >= laws.valueOf(SURE_LAW) * TENTHS;
    }

    private boolean isGivenAs(int p, int answer) {
        for (int l = 0; l < lookers.size(); l++) {
            if (lookers.sortOf(l) == MACHINE && looks.answerAt(l, p) == answer && isSure(p, answer)) {
                return true;
            }
        }
        return false;
    }

    private boolean isGiven(int p) {
        return isGivenAs(p, SMOOTH) || isGivenAs(p, LEFT) || isGivenAs(p, RIGHT);
    }

    private int givenPictures() {
        int n = 0;
        for (int p = 0; p < pictures.size(); p++) {
            n += oneIf(isGiven(p));
        }
        return n;
    }

    private int looksOfOthersAtGiven() {
        int n = 0;
        for (int k = 0; k < looks.size(); k++) {
            n += oneIf(lookers.sortOf(looks.lookerOf(k)) != MACHINE && isGiven(looks.pictureOf(k)));
        }
        return n;
    }

    // by a low 'sure' two machines can give one picture two answers: one wrong one is enough
    private int wronglyGivenPictures() {
        int n = 0;
        for (int p = 0; p < pictures.size(); p++) {
            boolean isWrong = false;
            for (int answer = SMOOTH; answer <= RIGHT; answer++) {
                isWrong = isWrong || answer != pictures.kindOf(p) && isGivenAs(p, answer);
            }
            n += oneIf(isWrong);
        }
        return n;
    }

    /** The laws in force, and the text that is to become the next ones. */
    private static final class Laws {
        private static final int MOST_BYTES = 160, MOST_AT_ONCE = 8, BITS_OF_BYTE = 8, LOW_BYTE = 255;
        private static final int MOST_FIGURES = 3, TEN = 10;
        private static final int NO_BYTE = -1, BLANK = 32;
        private static final int CANNOT_STAND = 1, BAD_NUMBER = 2, TOLD_TWICE = 3, FAULT_BASE = -10;
        private static final int[] AT_FIRST = {90, 60, 30, 5, 90, 8, 3, 95};
        private static final int[] LEAST = {0, 0, 0, 0, 34, 1, 1, 34};
        private static final int[] GREATEST = {100, 100, 100, 99, 99, 8, 9, 99};

        private final int[] values = new int[LAWS];
        private final int[] readValues = new int[LAWS];
        private final int[] bytes = new int[MOST_BYTES];
        private int size;
        private int place;
        private int faultNumber;
        private int faultPlace;

        Laws() {
            System.arraycopy(AT_FIRST, 0, values, 0, LAWS);
            faultPlace = NONE;
        }

        int valueOf(int law) {
            return law >= 0 && law < values.length ? values[law] : 0;
        }

        int textSize() {
            return size;
        }

        int faultPlace() {
            return faultPlace;
        }

        int append(int n, long tail) {
            if (size + n > bytes.length) {
                return FULL;
            }
            for (int i = n - 1; i >= 0 && size < bytes.length; i--) {
                bytes[size] = (int) (tail >>> BITS_OF_BYTE * i & LOW_BYTE);
                size++;
            }
            return size;
        }

        int takeText() {
            readText();
            size = 0;
            if (faultNumber != 0) {
                return FAULT_BASE - faultNumber;
            }
            faultPlace = NONE;
            return takeReadValues();
        }

        private int takeReadValues() {
            int clauses = 0;
            for (int law = 0; law < LAWS; law++) {
                boolean isTold = readValues[law] != NONE;
                clauses += oneIf(isTold);
                values[law] = isTold ? readValues[law] : AT_FIRST[law];
            }
            return clauses;
        }

        // faults lie one behind the other as they are met, so that the first one met is the first byte's
        private void readText() {
            place = 0;
            faultNumber = 0;
            for (int law = 0; law < LAWS; law++) {
                readValues[law] = NONE;
            }
            skipBlanks();
            for (int clause = 0; clause <= LAWS && place < size && faultNumber == 0; clause++) {
                readClause();
                skipBlanks();
            }
        }

        private void readClause() {
            int law = readWord();
            if (faultNumber == 0) {
                skipBlanks();
                int value = readNumber(law);
                skipBlanks();
                if (faultNumber == 0) {
                    readEnd(law, value);
                }
            }
        }

        private int readWord() {
            int start = place;
            while (place < size && isLetter(byteAt(place))) {
                place++;
            }
            for (int law = 0; law < LAWS; law++) {
                if (isWord(wordOf(law), start, place)) {
                    if (readValues[law] != NONE) {
                        blame(TOLD_TWICE, start);
                    }
                    return law;
                }
            }
            blame(CANNOT_STAND, start);
            return NONE;
        }

        private int readNumber(int law) {
            int start = place;
            int value = 0;
            while (place < size && isFigure(byteAt(place))) {
                // beyond three figures the value does not matter any more
                if (place - start < MOST_FIGURES) {
                    value = value * TEN + byteAt(place) - '0';
                }
                place++;
            }
            if (place == start) {
                blame(CANNOT_STAND, start);
            } else if (place - start > MOST_FIGURES || !isInBounds(law, value)) {
                blame(BAD_NUMBER, start);
            }
            return value;
        }

        private void readEnd(int law, int value) {
            if (byteAt(place) != ';') {
                blame(CANNOT_STAND, place);
            } else if (law >= 0 && law < readValues.length) {
                place++;
                readValues[law] = value;
            }
        }

        private void skipBlanks() {
            while (place < size && byteAt(place) == BLANK) {
                place++;
            }
        }

        private void blame(int number, int at) {
            faultNumber = number;
            faultPlace = at;
        }

        private int byteAt(int at) {
            return at >= 0 && at < size && at < bytes.length ? bytes[at] : NO_BYTE;
        }

        private boolean isWord(String word, int start, int end) {
            if (word.length() != end - start) {
                return false;
            }
            for (int i = 0; i < word.length(); i++) {
                if (word.charAt(i) != byteAt(start + i)) {
                    return false;
                }
            }
            return true;
        }

        private static boolean isLetter(int sign) {
            return sign >= 'a' && sign <= 'z';
        }

        private static boolean isFigure(int sign) {
            return sign >= '0' && sign <= '9';
        }

        private static boolean isInBounds(int law, int value) {
            return law >= 0 && law < LAWS && value >= LEAST[law] && value <= GREATEST[law];
        }

        private static String wordOf(int law) {
            switch (law) {
                case SHARP_LAW:
                    return "sharp";
                case FAR_LAW:
                    return "far";
                case LEAN_LAW:
                    return "lean";
                case TIRE_LAW:
                    return "tire";
                case LINE_LAW:
                    return "line";
                case MOST_LAW:
                    return "most";
                case PATIENCE_LAW:
                    return "patience";
                default:
                    return "sure";
            }
        }
    }

    /** The seed, and the draws that come of it. */
    private static final class Draws {
        private static final long FACTOR = 1103515245L, ADDEND = 12345L, LOW_31_BITS = 2147483647L;
        private static final long DROPPED = 65536L, SIDES = 100L;

        private long state;

        int begin(int v) {
            int before = (int) state;
            state = v;
            return before;
        }

        int draw() {
            state = state * FACTOR + ADDEND & LOW_31_BITS;
            return (int) (state / DROPPED % SIDES);
        }

        int drawKind() {
            return draw() % KINDS;
        }
    }

    /** The pictures; a number that there is not answers as a near smooth one. */
    private static final class Pictures {
        private final int[] kinds = new int[MOST_PICTURES];
        private final int[] fars = new int[MOST_PICTURES];
        private final int[] depths = new int[MOST_PICTURES];
        private final int[] originals = new int[MOST_PICTURES];
        private final boolean[] knowns = new boolean[MOST_PICTURES];
        private int size;

        int add(int kind, int far, int depth, boolean known, int original) {
            if (size >= MOST_PICTURES) {
                return FULL;
            }
            int p = size;
            kinds[p] = kind;
            fars[p] = far;
            depths[p] = depth;
            knowns[p] = known;
            originals[p] = original;
            size++;
            return p;
        }

        int size() {
            return size;
        }

        boolean has(int p) {
            return p >= 0 && p < size && p < MOST_PICTURES;
        }

        int kindOf(int p) {
            return has(p) ? kinds[p] : SMOOTH;
        }

        int farOf(int p) {
            return has(p) ? fars[p] : 0;
        }

        int depthOf(int p) {
            return has(p) ? depths[p] : 0;
        }

        boolean isKnown(int p) {
            return has(p) && knowns[p];
        }

        int originalOf(int p) {
            return has(p) ? originals[p] : NONE;
        }

        int knownOnes() {
            int n = 0;
            for (int p = 0; p < size; p++) {
                n += oneIf(isKnown(p));
            }
            return n;
        }

        int mirrors() {
            int n = 0;
            for (int p = 0; p < size; p++) {
                n += oneIf(originalOf(p) != NONE);
            }
            return n;
        }
    }

    /** The lookers and their sorts. */
    private static final class Lookers {
        private final int[] sorts = new int[MOST_LOOKERS];
        private int size;

        int add(int sort) {
            if (size >= sorts.length) {
                return FULL;
            }
            sorts[size] = sort;
            size++;
            return size - 1;
        }

        int size() {
            return size;
        }

        boolean has(int l) {
            return l >= 0 && l < size && l < sorts.length;
        }

        int sortOf(int l) {
            return has(l) ? sorts[l] : NONE;
        }
    }

    /** The looks as they came, with what is asked of them most kept beside them. */
    private static final class Looks {
        private final int[] lookers = new int[MOST_LOOKS];
        private final int[] pictures = new int[MOST_LOOKS];
        private final int[] answers = new int[MOST_LOOKS];
        private final boolean[] counting = new boolean[MOST_LOOKS];
        private final int[] grid = new int[MOST_LOOKERS * MOST_PICTURES];
        private final int[] atPicture = new int[MOST_PICTURES];
        private final int[] greenAtPicture = new int[MOST_PICTURES];
        private final int[] byLooker = new int[MOST_LOOKERS];
        private int size;

        Looks() {
            for (int i = 0; i < grid.length; i++) {
                grid[i] = NONE;
            }
        }

        int add(int l, int p, int answer) {
            if (size >= MOST_LOOKS) {
                return FULL;
            }
            if (!isCell(l, p)) {
                return UNKNOWN;
            }
            int k = size;
            lookers[k] = l;
            pictures[k] = p;
            answers[k] = answer;
            counting[k] = atPicture[p] < LOOKS_THAT_COUNT;
            grid[l * MOST_PICTURES + p] = answer;
            atPicture[p]++;
            greenAtPicture[p] += oneIf(answer == NONE_OF_THESE);
            byLooker[l]++;
            size++;
            return k;
        }

        int size() {
            return size;
        }

        boolean isFull() {
            return size >= MOST_LOOKS;
        }

        boolean has(int k) {
            return k >= 0 && k < size && k < MOST_LOOKS;
        }

        int lookerOf(int k) {
            return has(k) ? lookers[k] : NONE;
        }

        int pictureOf(int k) {
            return has(k) ? pictures[k] : NONE;
        }

        int answerOf(int k) {
            return has(k) ? answers[k] : NONE;
        }

        boolean counts(int k) {
            return has(k) && counting[k];
        }

        int answerAt(int l, int p) {
            return isCell(l, p) ? grid[l * MOST_PICTURES + p] : NONE;
        }

        int howManyAt(int p) {
            return p >= 0 && p < MOST_PICTURES ? atPicture[p] : 0;
        }

        int greensAt(int p) {
            return p >= 0 && p < MOST_PICTURES ? greenAtPicture[p] : 0;
        }

        int howManyBy(int l) {
            return l >= 0 && l < MOST_LOOKERS ? byLooker[l] : 0;
        }

        private static boolean isCell(int l, int p) {
            return l >= 0 && l < MOST_LOOKERS && p >= 0 && p < MOST_PICTURES;
        }
    }

    /** Odds of pictures, tables of lookers and the sky, found together round by round. */
    private static final class Reckoning {
        private static final int FIRST_OF_KIND = 70, FIRST_OF_OTHERS = 10, TABLE_SPAN = 96;
        private static final int FIRST_SMOOTH = 334, FIRST_ARM = 333, NOT_SETTLED = -41;

        private final int[] odds = new int[MOST_PICTURES * KINDS];
        private final int[] tables = new int[MOST_LOOKERS * KINDS * ANSWERS];
        private final int[] sky = new int[KINDS];
        private final long[] chances = new long[MOST_PICTURES * KINDS];
        private final int[] oddsByAnswer = new int[MOST_LOOKERS * KINDS * ANSWERS];
        private boolean hasChanged;
        private int rounds;

        Reckoning() {
            begin();
        }

        int rounds() {
            return rounds;
        }

        int oddsOf(int p, int kind) {
            return isOddsCell(p, kind) ? odds[p * KINDS + kind] : 0;
        }

        int greatestOddsOf(int p) {
            if (!isOddsCell(p, RIGHT)) {
                return 0;
            }
            int at = p * KINDS;
            return Math.max(odds[at + SMOOTH], Math.max(odds[at + LEFT], odds[at + RIGHT]));
        }

        int tableOf(int l, int kind, int answer) {
            return isTableCell(l, kind, answer) ? tables[tableCell(l, kind, answer)] : 0;
        }

        int skyOf(int kind) {
            return kind >= 0 && kind < sky.length ? sky[kind] : 0;
        }

        int settle(Pictures pictures, Looks looks) {
            begin();
            for (int round = 1; round <= MOST_ROUNDS; round++) {
                rounds = round;
                hasChanged = false;
                findOdds(pictures, looks);
                findTables(looks);
                findSky(pictures.size());
                if (!hasChanged) {
                    return round;
                }
            }
            return NOT_SETTLED;
        }

        private void begin() {
            for (int i = 0; i < odds.length; i++) {
                odds[i] = i % KINDS == SMOOTH ? FIRST_SMOOTH : FIRST_ARM;
            }
            for (int i = 0; i < tables.length; i++) {
                tables[i] = i / ANSWERS % KINDS == i % ANSWERS ? FIRST_OF_KIND : FIRST_OF_OTHERS;
            }
            for (int kind = 0; kind < sky.length; kind++) {
                sky[kind] = kind == SMOOTH ? FIRST_SMOOTH : FIRST_ARM;
            }
        }

        private void findOdds(Pictures pictures, Looks looks) {
            for (int i = 0; i < chances.length; i++) {
                chances[i] = skyOf(i % KINDS);
            }
            // at most 1000 times 97, six times: that times 1000 is still well within a long
            for (int k = 0; k < looks.size(); k++) {
                if (looks.counts(k)) {
                    weigh(looks.lookerOf(k), looks.pictureOf(k), looks.answerOf(k));
                }
            }
            for (int p = 0; p < pictures.size(); p++) {
                if (pictures.isKnown(p)) {
                    keepKnown(p, pictures.kindOf(p));
                } else {
                    keepShares(p);
                }
            }
        }

        private void weigh(int l, int p, int answer) {
            for (int kind = 0; kind < KINDS; kind++) {
                if (isOddsCell(p, kind)) {
                    chances[p * KINDS + kind] *= tableOf(l, kind, answer);
                }
            }
        }

        private void keepKnown(int p, int kindOfIt) {
            for (int kind = 0; kind < KINDS; kind++) {
                keep(odds, p * KINDS + kind, kind == kindOfIt ? WHOLE : 0);
            }
        }

        private void keepShares(int p) {
            int smooth = shareOf(p, SMOOTH);
            int left = shareOf(p, LEFT);
            int right = shareOf(p, RIGHT);
            int rest = WHOLE - smooth - left - right;
            if (smooth >= left && smooth >= right) {
                smooth += rest;
            } else if (left >= right) {
                left += rest;
            } else {
                right += rest;
            }
            keep(odds, p * KINDS + SMOOTH, smooth);
            keep(odds, p * KINDS + LEFT, left);
            keep(odds, p * KINDS + RIGHT, right);
        }

        private int shareOf(int p, int kind) {
            long all = chanceOf(p, SMOOTH) + chanceOf(p, LEFT) + chanceOf(p, RIGHT);
            return all > 0 ? (int) (chanceOf(p, kind) * WHOLE / all) : 0;
        }

        private long chanceOf(int p, int kind) {
            return isOddsCell(p, kind) ? chances[p * KINDS + kind] : 0;
        }

        private void findTables(Looks looks) {
            for (int i = 0; i < oddsByAnswer.length; i++) {
                oddsByAnswer[i] = 0;
            }
            for (int k = 0; k < looks.size(); k++) {
                if (looks.counts(k)) {
                    addOdds(looks.lookerOf(k), looks.pictureOf(k), looks.answerOf(k));
                }
            }
            for (int row = 0; row + ANSWERS <= tables.length; row += ANSWERS) {
                keepTable(row);
            }
        }

        private void addOdds(int l, int p, int answer) {
            for (int kind = 0; kind < KINDS; kind++) {
                if (isTableCell(l, kind, answer)) {
                    oddsByAnswer[tableCell(l, kind, answer)] += oddsOf(p, kind);
                }
            }
        }

        // a row of a looker without a look that counts has no odds either, and so stays as it was
        private void keepTable(int row) {
            int all = 0;
            for (int i = row; i < row + ANSWERS && i < oddsByAnswer.length; i++) {
                all += oddsByAnswer[i];
            }
            for (int i = row; i < row + ANSWERS && i < oddsByAnswer.length && all > 0; i++) {
                keep(tables, i, 1 + TABLE_SPAN * oddsByAnswer[i] / all);
            }
        }

        private void findSky(int size) {
            if (size <= 0) {
                return;
            }
            int left = sumOfOdds(LEFT, size) / size;
            int right = sumOfOdds(RIGHT, size) / size;
            // what is left of 1000 goes to the smooth ones: they have all that the others have not
            keep(sky, SMOOTH, Math.max(1, WHOLE - left - right));
            keep(sky, LEFT, Math.max(1, left));
            keep(sky, RIGHT, Math.max(1, right));
        }

        private int sumOfOdds(int kind, int size) {
            int sum = 0;
            for (int p = 0; p < size; p++) {
                sum += oddsOf(p, kind);
            }
            return sum;
        }

        private void keep(int[] row, int i, int value) {
            if (i >= 0 && i < row.length && row[i] != value) {
                row[i] = value;
                hasChanged = true;
            }
        }

        private static boolean isOddsCell(int p, int kind) {
            return p >= 0 && p < MOST_PICTURES && kind >= SMOOTH && kind < KINDS;
        }

        private static boolean isTableCell(int l, int kind, int answer) {
            return l >= 0 && l < MOST_LOOKERS && kind >= SMOOTH && kind < KINDS
                    && answer >= 0 && answer < ANSWERS;
        }

        private static int tableCell(int l, int kind, int answer) {
            return (l * KINDS + kind) * ANSWERS + answer;
        }
    }

    /** Things, questions that part them, and the best tree of each set of things. */
    private static final class Questions {
        private static final int FEWEST_THINGS = 2, MOST_THINGS = 8, MOST_QUESTIONS = 6, MOST_WEIGHT = 99;
        private static final int SETS = 1 << MOST_THINGS;

        private final int[] weights = new int[MOST_THINGS];
        private final int[] yesSets = new int[MOST_QUESTIONS];
        private final int[] asks = new int[SETS];
        private final int[] firsts = new int[SETS];
        private final int[] depths = new int[SETS];
        private int size;
        private boolean isPlanned;

        Questions() {
            restart(FEWEST_THINGS);
        }

        int restart(int n) {
            size = n;
            for (int t = 0; t < weights.length; t++) {
                weights[t] = 1;
            }
            for (int k = 0; k < yesSets.length; k++) {
                yesSets[k] = 0;
            }
            isPlanned = false;
            return size;
        }

        int size() {
            return size;
        }

        boolean hasThing(int t) {
            return t >= 0 && t < size && t < weights.length;
        }

        int changeWeight(int t, int v) {
            if (!hasThing(t)) {
                return OUTSIDE;
            }
            int before = weights[t];
            weights[t] = v;
            isPlanned = false;
            return before;
        }

        int changeSet(int k, int set) {
            if (k < 0 || k >= yesSets.length) {
                return OUTSIDE;
            }
            int before = yesSets[k];
            yesSets[k] = set;
            isPlanned = false;
            return before;
        }

        int asksOf(int set) {
            plan();
            return plannedAsks(set);
        }

        int firstOf(int set) {
            plan();
            return plannedFirst(set);
        }

        int depthOf(int set) {
            plan();
            return plannedDepth(set);
        }

        int wrongTurn(int t) {
            plan();
            int all = (1 << size) - 1;
            int k = plannedFirst(all);
            if (k == NONE) {
                return 0;
            }
            int left = all & ~sideOf(all, k, t);
            // each question that is left parts the set, so that there are fewer turns than things
            for (int turn = 0; turn < MOST_THINGS && plannedFirst(left) != NONE; turn++) {
                left = sideOf(left, plannedFirst(left), t);
            }
            return left;
        }

        private int sideOf(int set, int k, int t) {
            return isIn(yesSetOf(k), t) ? set & yesSetOf(k) : set & ~yesSetOf(k);
        }

        // parts of a set are lesser numbers than the set: they are planned before it
        private void plan() {
            if (isPlanned) {
                return;
            }
            isPlanned = true;
            for (int set = 1; set < 1 << size && set < SETS; set++) {
                planSet(set);
            }
        }

        private void planSet(int set) {
            int best = NONE;
            int least = 0;
            for (int k = 0; k < MOST_QUESTIONS; k++) {
                int yes = set & yesSetOf(k);
                int no = set & ~yesSetOf(k);
                if (yes != 0 && no != 0) {
                    int further = plannedAsks(yes) + plannedAsks(no);
                    if (best == NONE || further < least) {
                        best = k;
                        least = further;
                    }
                }
            }
            if (isSet(set)) {
                firsts[set] = best;
                asks[set] = best == NONE ? 0 : weightOf(set) + least;
                depths[set] = best == NONE ? 0 : 1 + deeperSide(set, yesSetOf(best));
            }
        }

        private int deeperSide(int set, int yesSet) {
            return Math.max(plannedDepth(set & yesSet), plannedDepth(set & ~yesSet));
        }

        private int plannedAsks(int set) {
            return isSet(set) ? asks[set] : 0;
        }

        private int plannedFirst(int set) {
            return isSet(set) ? firsts[set] : NONE;
        }

        private int plannedDepth(int set) {
            return isSet(set) ? depths[set] : 0;
        }

        private int weightOf(int set) {
            int sum = 0;
            for (int t = 0; t < weights.length; t++) {
                sum += isIn(set, t) ? weights[t] : 0;
            }
            return sum;
        }

        private int yesSetOf(int k) {
            return k >= 0 && k < yesSets.length ? yesSets[k] : 0;
        }

        private static boolean isSet(int set) {
            return set >= 0 && set < SETS;
        }
    }
}
