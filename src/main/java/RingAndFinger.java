/** A finger of parts and a ring that is to come back over them; the document ../shared/DOC.md is its promise. */
public final class RingAndFinger {
    private static final int NOBODY = -1;
    private static final int OTHER = -2;
    private static final int STATE = -3;
    private static final int BELOW = -4;
    private static final int ROOM = -6;
    private static final int NONE = -9;
    private static final int NOTHING_HELD = -9999;
    private static final int FAR_REFUSAL = 1000000000;
    private static final int FORM_FAULT = -1000;
    private static final int SENSE_FAULT = -2000;

    private static final int MOST_PARTS = 6;
    private static final int MOST_LETTERS = 96;
    private static final int MOST_NUMBERS = 12;
    private static final int MOST_THICK = 240;
    private static final int LEAST_SIZE = 100;
    private static final int MOST_SIZE = 250;
    private static final int MOST_SWELL = 30;
    private static final int MOST_COLD = 20;
    private static final int MOST_BLUE = 99;
    private static final int MOST_DIGIT = 9;
    private static final int MOST_MINUTE = 999;
    private static final int MOST_WAIT = 60;
    private static final int MOST_PRICE = 99;
    private static final int MOST_SOON = 120;
    private static final int MOST_GENTLE = 60;
    private static final int MOST_FAILURES = 12;
    private static final int MOST_EVENINGS = 20;
    private static final int EVENING_TRIES = 12;
    private static final int MOST_DANGER = 9;
    private static final int SAFE_BLUE = 9;
    private static final int THREAD_BLUE = 5;
    private static final int MOST_THREADED = 2;
    private static final int MONTHS = 12;
    private static final int ALL_MONTHS = 4095;

    private static final int KNUCKLE = 1;
    private static final int SKIN = 2;
    private static final int ROLL = 3;
    private static final int JOINT = 4;
    private static final int TIP = 5;

    private static final int SOAPED = 1;
    private static final int TURNED = 2;
    private static final int WALKED = 3;
    private static final int PULLED = 4;
    private static final int THREADED = 5;
    private static final int COOLED = 6;
    private static final int WAIT = 7;
    private static final int SHORT_WAIT = 5;

    private static final int SIZE = 0;
    private static final int BROAD = 1;
    private static final int SWELL = 2;
    private static final int COLD = 3;
    private static final int HEAT = 4;
    private static final int[] LEAST_SET = {LEAST_SIZE, 1, 0, 0, 0};
    private static final int[] MOST_SET = {MOST_SIZE, 9, MOST_SWELL, MOST_COLD, 9};

    // By moves: the kinds of tries and, last, a wait of five minutes.
    private static final int[] MOVE_MINUTES = {1, 2, 3, 4, 1, 6, 8, 5};
    private static final int[] MOVE_SWELL = {2, 2, 3, 1, 5, 1, 2, 0};
    private static final int[] MOVE_HARM = {1, 1, 1, 1, 3, 2, 1, 0};

    private final Finger now = new Finger();
    private final Finger then = new Finger();
    private final Finger trial = new Finger();
    private final Search search = new Search();
    private final int[] letters = new int[MOST_LETTERS];
    private final int[] numbers = new int[MOST_NUMBERS];
    private final int[] thickest = new int[MONTHS];
    private final int[] refusals = new int[-ROOM + 1];
    private int letterCount = 0;
    private int numberCount = 0;
    private boolean imaged = false;
    private int seed = 0;

    public RingAndFinger() {
    }

    public int letter(int c) {
        if (c < 0) {
            return refuse(BELOW);
        }
        if (c > 255 || letterCount >= MOST_LETTERS) {
            return refuse(ROOM);
        }
        put(letters, letterCount, c);
        letterCount++;
        return letterCount;
    }

    public int hand() {
        int place = formFault();
        int answer = place >= 0 ? FORM_FAULT - place : takeStatements();
        letterCount = 0;
        return answer;
    }

    public int part(int part, int what) {
        if (part < 0 || part >= now.parts) {
            return refuse(NOBODY);
        }
        switch (what) {
            case 0: return at(now.kinds, part);
            case 1: return at(now.thicks, part);
            case 2: return now.thickNow(part);
            default: return refuse(OTHER);
        }
    }

    public int set(int what, int v) {
        if (what < SIZE || what > HEAT) {
            return refuse(OTHER);
        }
        if (v < at(LEAST_SET, what)) {
            return refuse(BELOW);
        }
        if (v > at(MOST_SET, what)) {
            return refuse(ROOM);
        }
        int was = now.setting(what);
        now.change(what, v);
        return was;
    }

    public int back() {
        int was = now.front;
        now.front = 0;
        return was;
    }

    public int kind(int kind, int what) {
        if (!isTry(kind)) {
            return refuse(OTHER);
        }
        switch (what) {
            case 0: return allowance(kind, now.broad);
            case 1: return at(MOVE_MINUTES, kind);
            case 2: return at(MOVE_SWELL, kind);
            case 3: return at(MOVE_HARM, kind);
            default: return refuse(OTHER);
        }
    }

    public int tries(int kind) {
        int refusal = tryRefusal(kind);
        if (refusal != 0) {
            return refusal;
        }
        if (!now.hasMinutes(at(MOVE_MINUTES, kind))) {
            return refuse(ROOM);
        }
        return now.attempt(kind) ? 1 : 0;
    }

    public int pause(int m) {
        if (m < 1) {
            return refuse(BELOW);
        }
        if (m > MOST_WAIT || !now.hasMinutes(m)) {
            return refuse(ROOM);
        }
        now.rest(m);
        return now.minute;
    }

    public int would(int kind) {
        int refusal = tryRefusal(kind);
        if (refusal != 0) {
            return refusal;
        }
        return now.goesOver(kind) ? 1 : 0;
    }

    public int holds() {
        return now.isOff() ? NOTHING_HELD : now.thickNow(now.front) - now.size;
    }

    public int goes(int kind) {
        int refusal = tryRefusal(kind);
        return refusal != 0 ? refusal : failuresAhead(kind);
    }

    public int stop() {
        if (now.isOff()) {
            return refuse(STATE);
        }
        int best = NONE;
        int fewest = MOST_FAILURES + 1;
        for (int kind = 0; kind <= COOLED; kind++) {
            int failures = failuresAhead(kind);
            if (failures >= 0 && failures < fewest) {
                best = kind;
                fewest = failures;
            }
        }
        return best;
    }

    public int waited(int kind) {
        int refusal = tryRefusal(kind);
        if (refusal != 0) {
            return refusal;
        }
        for (int m = 0; m <= MOST_WAIT; m++) {
            trial.copyFrom(now);
            trial.rest(m);
            if (trial.goesOver(kind)) {
                return m;
            }
        }
        return NONE;
    }

    public int soonest(int what) {
        if (!isEither(what)) {
            return refuse(OTHER);
        }
        return what == 0 ? search.least(now, 0, false, MOST_SOON) : firstMove(false, MOST_SOON);
    }

    public int gentlest(int what) {
        if (!isEither(what)) {
            return refuse(OTHER);
        }
        return what == 0 ? search.least(now, 0, true, MOST_GENTLE) : firstMove(true, MOST_GENTLE);
    }

    public int danger(int n) {
        if (n < 0) {
            return refuse(BELOW);
        }
        if (n > MOST_DANGER) {
            return refuse(ROOM);
        }
        int blue = Math.min(MOST_BLUE, now.blue + n * THREAD_BLUE);
        return Math.max(0, blue - SAFE_BLUE);
    }

    public int sticks(int size) {
        int refusal = monthRefusal(size);
        if (refusal != 0) {
            return refusal;
        }
        measureMonths();
        return stickMonths(size);
    }

    public int falls(int size) {
        int refusal = monthRefusal(size);
        if (refusal != 0) {
            return refusal;
        }
        measureMonths();
        return fallMonths(size);
    }

    public int year(int a, int b, int what) {
        int range = priceRange(a, b);
        if (range != 0) {
            return refuse(range);
        }
        if (!isEither(what)) {
            return refuse(OTHER);
        }
        if (numberCount != MONTHS) {
            return refuse(STATE);
        }
        measureMonths();
        int size = bestSize(ALL_MONTHS, a, b);
        return what == 0 ? size : cost(size, ALL_MONTHS, a, b);
    }

    public int two(int from, int to, int a, int b, int what) {
        int range = spanRange(from, to, a, b);
        if (range != 0) {
            return refuse(range);
        }
        if (what < 0 || what > 2) {
            return refuse(OTHER);
        }
        if (numberCount != MONTHS) {
            return refuse(STATE);
        }
        measureMonths();
        int span = monthSpan(from, to);
        switch (what) {
            case 0: return bestSize(span, a, b);
            case 1: return bestSize(ALL_MONTHS - span, a, b);
            default: return twoCost(span, a, b);
        }
    }

    public int worth(int from, int to, int a, int b) {
        int range = spanRange(from, to, a, b);
        if (range != 0) {
            return FAR_REFUSAL - refuse(range);
        }
        if (numberCount != MONTHS) {
            return FAR_REFUSAL - refuse(STATE);
        }
        measureMonths();
        return leastCost(ALL_MONTHS, a, b) - twoCost(monthSpan(from, to), a, b);
    }

    public int went(int kind, int what) {
        if (!isTry(kind) || !isEither(what)) {
            return refuse(OTHER);
        }
        int many = 0;
        int greatest = NONE;
        trial.copyFrom(now);
        for (int swell = 0; swell <= MOST_SWELL; swell++) {
            trial.swell = swell;
            if (trial.thickestNow() <= trial.size + allowance(kind, trial.broad)) {
                many++;
                greatest = swell;
            }
        }
        return what == 0 ? many : greatest;
    }

    public int feel(int what) {
        if (!isEither(what)) {
            return refuse(OTHER);
        }
        if (now.isOff() || !numbersTellTries()) {
            return refuse(STATE);
        }
        int least = 0;
        int greatest = MOST_THICK;
        trial.copyFrom(now);
        for (int i = 0; i + 1 < numberCount; i += 2) {
            int kind = at(numbers, i);
            int edge = trial.thickestThatGoes(kind);
            if (at(numbers, i + 1) == 1) {
                greatest = Math.min(greatest, edge);
            } else {
                least = Math.max(least, edge + 1);
            }
            trial.strain(kind);
        }
        if (least > greatest) {
            return NONE;
        }
        return what == 0 ? least : greatest;
    }

    public int row(int v) {
        if (v < 0) {
            return refuse(BELOW);
        }
        if (v > MOST_DIGIT || numberCount >= MOST_NUMBERS) {
            return refuse(ROOM);
        }
        put(numbers, numberCount, v);
        numberCount++;
        return numberCount;
    }

    public int judge() {
        int told = numberCount;
        numberCount = 0;
        if (now.isOff()) {
            return NONE;
        }
        trial.copyFrom(now);
        for (int i = 0; i < told; i++) {
            trial.move(at(numbers, i));
            if (trial.isOff()) {
                return i;
            }
        }
        return NONE;
    }

    public int lots(int n, int z) {
        if (n < 1) {
            return refuse(BELOW);
        }
        if (n > MOST_EVENINGS) {
            return refuse(ROOM);
        }
        seed = z;
        int harm = 0;
        for (int i = 0; i < n; i++) {
            harm += eveningHarm();
        }
        return harm;
    }

    public int image() {
        then.copyFrom(now);
        imaged = true;
        return now.minute;
    }

    public int on() {
        if (!imaged) {
            return refuse(STATE);
        }
        now.copyFrom(then);
        return now.minute;
    }

    public int count(int what) {
        if (what > 10 && what < 17) {
            return at(refusals, what - 10);
        }
        switch (what) {
            case 0: return now.parts;
            case 1: return now.front;
            case 2: return now.swell;
            case 3: return now.cold;
            case 4: return now.blue;
            case 5: return now.minute;
            case 6: return now.harm;
            case 7: return now.size;
            case 8: return numberCount;
            case 9: return letterCount;
            case 10: return now.heat;
            case 17: return now.broad;
            default: return NONE;
        }
    }

    private int refuse(int refusal) {
        put(refusals, -refusal, at(refusals, -refusal) + 1);
        return refusal;
    }

    private int tryRefusal(int kind) {
        if (!isTry(kind)) {
            return refuse(OTHER);
        }
        return now.isOff() ? refuse(STATE) : 0;
    }

    private int monthRefusal(int size) {
        if (size < LEAST_SIZE) {
            return refuse(BELOW);
        }
        if (size > MOST_SIZE) {
            return refuse(ROOM);
        }
        return numberCount != MONTHS ? refuse(STATE) : 0;
    }

    private static int priceRange(int a, int b) {
        if (a < 0 || b < 0) {
            return BELOW;
        }
        return a > MOST_PRICE || b > MOST_PRICE ? ROOM : 0;
    }

    private static int spanRange(int from, int to, int a, int b) {
        if (from < 0 || to < 0 || a < 0 || b < 0) {
            return BELOW;
        }
        return to > MONTHS || from > to ? ROOM : priceRange(a, b);
    }

    private static boolean isTry(int kind) {
        return kind >= 0 && kind <= COOLED;
    }

    private static boolean isEither(int what) {
        return what == 0 || what == 1;
    }

    private int failuresAhead(int kind) {
        trial.copyFrom(now);
        for (int failures = 0; failures <= MOST_FAILURES; failures++) {
            if (trial.goesOver(kind)) {
                return failures;
            }
            trial.strain(kind);
        }
        return NONE;
    }

    private int firstMove(boolean gentle, int most) {
        int total = search.least(now, 0, gentle, most);
        if (total <= 0) {
            return NONE;
        }
        for (int move = 0; move <= WAIT; move++) {
            int rest = total - movePrice(move, gentle);
            int used = move == THREADED ? 1 : 0;
            trial.copyFrom(now);
            trial.move(move);
            if (rest >= 0 && search.least(trial, used, gentle, rest) == rest) {
                return move;
            }
        }
        return NONE;
    }

    private void measureMonths() {
        trial.copyFrom(now);
        for (int month = 0; month < MONTHS; month++) {
            int heat = at(numbers, month);
            trial.heat = heat;
            trial.swell = 2 * heat;
            trial.cold = MOST_DIGIT - heat;
            put(thickest, month, trial.thickestNow());
        }
    }

    private int stickMonths(int size) {
        int months = 0;
        for (int month = 0; month < MONTHS; month++) {
            if (at(thickest, month) > size + 4) {
                months |= 1 << month;
            }
        }
        return months;
    }

    private int fallMonths(int size) {
        int months = 0;
        for (int month = 0; month < MONTHS; month++) {
            if (at(thickest, month) < size - 9) {
                months |= 1 << month;
            }
        }
        return months;
    }

    private static int monthSpan(int from, int to) {
        return (1 << to) - (1 << from);
    }

    private int cost(int size, int months, int a, int b) {
        return a * Integer.bitCount(stickMonths(size) & months)
            + b * Integer.bitCount(fallMonths(size) & months);
    }

    private int bestSize(int months, int a, int b) {
        int best = LEAST_SIZE;
        int least = cost(LEAST_SIZE, months, a, b);
        for (int size = LEAST_SIZE + 1; size <= MOST_SIZE && least > 0; size++) {
            int that = cost(size, months, a, b);
            if (that < least) {
                best = size;
                least = that;
            }
        }
        return best;
    }

    private int leastCost(int months, int a, int b) {
        return cost(bestSize(months, a, b), months, a, b);
    }

    private int twoCost(int span, int a, int b) {
        return leastCost(span, a, b) + leastCost(ALL_MONTHS - span, a, b);
    }

    private boolean numbersTellTries() {
        if (numberCount % 2 != 0) {
            return false;
        }
        for (int i = 0; i + 1 < numberCount; i += 2) {
            if (!isTry(at(numbers, i)) || at(numbers, i + 1) > 1) {
                return false;
            }
        }
        return true;
    }

    private int eveningHarm() {
        trial.copyFrom(now);
        trial.harm = 0;
        trial.swell = draw(MOST_SWELL + 1);
        for (int i = 0; i < EVENING_TRIES && !trial.isOff(); i++) {
            trial.attempt(draw(COOLED));
        }
        return trial.harm;
    }

    private int draw(int below) {
        seed = seed * 1664525 + 1013904223;
        return below > 0 ? (seed & 0x7fffffff) / 256 % below : 0;
    }

    private int letterAt(int place) {
        return place < letterCount ? at(letters, place) : -1;
    }

    /** The place of the first letter with which no hand can go on, or -1. */
    private int formFault() {
        if (letterCount == 0) {
            return 0;
        }
        int start = 0;
        for (int n = 0; n < MOST_LETTERS && start < letterCount; n++) {
            int first = letterAt(start);
            int length = statementLength(first);
            if (length == 0) {
                return start;
            }
            for (int i = 1; i < length; i++) {
                if (!fits(first, i, length, letterAt(start + i))) {
                    return start + i;
                }
            }
            start += length;
        }
        return -1;
    }

    private static int statementLength(int first) {
        switch (first) {
            case 'p':
            case 'r': return 6;
            case 's':
            case 'c':
            case 'w': return 4;
            case 'h':
            case 't': return 3;
            default: return 0;
        }
    }

    private static boolean fits(int first, int i, int length, int letter) {
        if (i == length - 1) {
            return letter == ';';
        }
        if (first == 'p' && i == 1) {
            return kindOf(letter) >= 0;
        }
        return letter >= '0' && letter <= '9';
    }

    private static int kindOf(int letter) {
        switch (letter) {
            case 'p': return 0;
            case 'k': return KNUCKLE;
            case 's': return SKIN;
            case 'r': return ROLL;
            case 'j': return JOINT;
            case 't': return TIP;
            default: return -1;
        }
    }

    /** The trial takes them first: with a fault nothing of the hand may stay. */
    private int takeStatements() {
        trial.copyFrom(now);
        int statements = 0;
        int start = 0;
        for (int n = 0; n < MOST_LETTERS && start < letterCount; n++) {
            if (!takeStatement(start)) {
                return SENSE_FAULT - start;
            }
            statements++;
            start += statementLength(letterAt(start));
        }
        now.copyFrom(trial);
        return statements;
    }

    private boolean takeStatement(int start) {
        switch (letterAt(start)) {
            case 'p': return trial.takePart(kindOf(letterAt(start + 1)), numberAt(start + 2, 3));
            case 'r': return trial.takeSetting(SIZE, numberAt(start + 1, 3))
                && trial.takeSetting(BROAD, numberAt(start + 4, 1));
            case 's': return trial.takeSetting(SWELL, numberAt(start + 1, 2));
            case 'c': return trial.takeSetting(COLD, numberAt(start + 1, 2));
            case 'h': return trial.takeSetting(HEAT, numberAt(start + 1, 1));
            case 't': return trial.takeTry(numberAt(start + 1, 1));
            case 'w': return trial.takeWait(numberAt(start + 1, 2));
            default: return false;
        }
    }

    private int numberAt(int place, int digits) {
        int number = 0;
        for (int i = 0; i < digits; i++) {
            number = number * 10 + letterAt(place + i) - '0';
        }
        return number;
    }

    private static int allowance(int kind, int broad) {
        switch (kind) {
            case SOAPED:
            case COOLED: return 4;
            case TURNED: return 4 + 3;
            case WALKED: return 9 - broad;
            case PULLED: return 6;
            case THREADED: return 15;
            default: return 0;
        }
    }

    private static int movePrice(int move, boolean gentle) {
        return gentle ? at(MOVE_HARM, move) : at(MOVE_MINUTES, move);
    }

    // A kind is as the one it is under, and that one is cut at 0 already: the cut is made at each.
    private static int thickness(int kind, int thick, int swell, int cold, int heat) {
        int plain = Math.max(0, thick + swell - cold);
        int knuckle = Math.max(0, thick + swell / 2 - cold / 4);
        switch (kind) {
            case KNUCKLE: return knuckle;
            case SKIN: return plain + swell;
            case ROLL: return plain + swell + (swell > 9 ? 3 : 0);
            case JOINT: return knuckle + heat;
            case TIP: return Math.max(0, knuckle + heat - 10);
            default: return plain;
        }
    }

    private static int at(int[] row, int i) {
        return i >= 0 && i < row.length ? row[i] : 0;
    }

    private static void put(int[] row, int i, int v) {
        if (i >= 0 && i < row.length) {
            row[i] = v;
        }
    }

    /** All that an image keeps: the parts, the ring, and what tries and waits change. */
    private static final class Finger {
        final int[] kinds = new int[MOST_PARTS];
        final int[] thicks = new int[MOST_PARTS];
        int parts = 0;
        int size = 180;
        int broad = 4;
        int front = 0;
        int swell = 0;
        int cold = 0;
        int blue = 0;
        int heat = 3;
        int minute = 0;
        int harm = 0;

        void copyFrom(Finger other) {
            System.arraycopy(other.kinds, 0, kinds, 0, MOST_PARTS);
            System.arraycopy(other.thicks, 0, thicks, 0, MOST_PARTS);
            parts = other.parts;
            size = other.size;
            broad = other.broad;
            front = other.front;
            swell = other.swell;
            cold = other.cold;
            blue = other.blue;
            heat = other.heat;
            minute = other.minute;
            harm = other.harm;
        }

        boolean isOff() {
            return front >= parts;
        }

        boolean hasMinutes(int m) {
            return minute + m <= MOST_MINUTE;
        }

        int thickNow(int part) {
            return thickness(at(kinds, part), at(thicks, part), swell, cold, heat);
        }

        int thickestNow() {
            int thickest = -1;
            for (int part = 0; part < parts; part++) {
                thickest = Math.max(thickest, thickNow(part));
            }
            return thickest;
        }

        int coldAhead(int kind) {
            return kind == COOLED ? Math.min(MOST_COLD, cold + 8) : cold;
        }

        boolean goesOver(int kind) {
            if (isOff()) {
                return false;
            }
            int ahead = thickness(at(kinds, front), at(thicks, front), swell, coldAhead(kind), heat);
            return ahead <= size + allowance(kind, broad);
        }

        /** The most that the part in front may be for a try to go over; -1 none. It has another THICK then. */
        int thickestThatGoes(int kind) {
            for (int thick = MOST_THICK; thick >= 0; thick--) {
                put(thicks, front, thick);
                if (goesOver(kind)) {
                    return thick;
                }
            }
            return -1;
        }

        /** What a try does, over the part or not, to all but the ring's place. */
        void strain(int kind) {
            cold = coldAhead(kind);
            swell = Math.min(MOST_SWELL, swell + at(MOVE_SWELL, kind));
            harm += at(MOVE_HARM, kind);
            minute += at(MOVE_MINUTES, kind);
            if (kind == THREADED) {
                blue = Math.min(MOST_BLUE, blue + THREAD_BLUE);
            }
        }

        boolean attempt(int kind) {
            boolean over = goesOver(kind);
            strain(kind);
            if (over) {
                front++;
            }
            return over;
        }

        void rest(int m) {
            swell = Math.max(0, swell - m / 2);
            cold = Math.max(0, cold - m / 3);
            blue = Math.max(0, blue - m);
            minute += m;
        }

        void move(int move) {
            if (isTry(move)) {
                attempt(move);
            } else if (move == WAIT) {
                rest(SHORT_WAIT);
            }
        }

        int setting(int what) {
            switch (what) {
                case SIZE: return size;
                case BROAD: return broad;
                case SWELL: return swell;
                case COLD: return cold;
                default: return heat;
            }
        }

        void change(int what, int v) {
            switch (what) {
                case SIZE: size = v; break;
                case BROAD: broad = v; break;
                case SWELL: swell = v; break;
                case COLD: cold = v; break;
                default: heat = v; break;
            }
        }

        boolean takeSetting(int what, int v) {
            if (v < at(LEAST_SET, what) || v > at(MOST_SET, what)) {
                return false;
            }
            change(what, v);
            return true;
        }

        boolean takePart(int kind, int thick) {
            boolean closed = parts > 0 && isOff();
            if (thick > MOST_THICK || closed || parts >= MOST_PARTS) {
                return false;
            }
            put(kinds, parts, kind);
            put(thicks, parts, thick);
            parts++;
            return true;
        }

        boolean takeTry(int kind) {
            if (!isTry(kind) || isOff() || !hasMinutes(at(MOVE_MINUTES, kind))) {
                return false;
            }
            attempt(kind);
            return true;
        }

        boolean takeWait(int m) {
            if (m < 1 || m > MOST_WAIT || !hasMinutes(m)) {
                return false;
            }
            rest(m);
            return true;
        }
    }

    /**
     * The least price of having the ring off. What can still be is told by the part in front, threaded
     * tries used, swell and cold; of two that differ in cold alone the colder never does worse, nor does
     * less swell, so of a place (all but cold) only the coldest is kept, and what came dearer to no less
     * swell and no more cold is dropped.
     */
    private static final class Search {
        private static final int SWELLS = MOST_SWELL + 1;
        private static final int THREADS = MOST_THREADED + 1;
        private static final int PLACES = MOST_PARTS * THREADS * SWELLS;
        // One more than the dearest move: prices that far apart never wait at once.
        private static final int LAYERS = 9;

        final Finger finger = new Finger();
        // By price and place: 1 more than the most cold that waits there, 0 where nothing does.
        final int[] waiting = new int[LAYERS * PLACES];
        final int[] held = new int[LAYERS];
        // By place: 1 more than the most cold that was there or with less swell.
        final int[] seen = new int[PLACES];
        int left = 0;
        int best = 0;
        boolean gentle = false;

        int least(Finger from, int used, boolean byHarm, int most) {
            if (from.isOff()) {
                return 0;
            }
            clear();
            finger.copyFrom(from);
            gentle = byHarm;
            best = most + 1;
            arrive(0, used);
            for (int price = 0; price < best && left > 0; price++) {
                spreadLayer(price);
            }
            return best <= most ? best : NONE;
        }

        void clear() {
            for (int i = 0; i < held.length; i++) {
                held[i] = 0;
            }
            for (int i = 0; i < waiting.length; i++) {
                waiting[i] = 0;
            }
            for (int i = 0; i < seen.length; i++) {
                seen[i] = 0;
            }
            left = 0;
        }

        /** The finger stands where a move has brought it. */
        void arrive(int price, int used) {
            if (price >= best) {
                return;
            }
            if (finger.isOff()) {
                best = price;
                return;
            }
            int place = (finger.front * THREADS + used) * SWELLS + finger.swell;
            int layer = price % LAYERS;
            int i = layer * PLACES + place;
            int was = at(waiting, i);
            if (at(seen, place) > finger.cold || was > finger.cold) {
                return;
            }
            put(waiting, i, finger.cold + 1);
            if (was == 0) {
                put(held, layer, at(held, layer) + 1);
                left++;
            }
        }

        /** From much swell to little: by harm a wait costs nothing and lands on a place still to come. */
        void spreadLayer(int price) {
            int layer = price % LAYERS;
            for (int place = PLACES - 1; place >= 0 && at(held, layer) > 0; place--) {
                int i = layer * PLACES + place;
                int cold = at(waiting, i) - 1;
                if (cold < 0) {
                    continue;
                }
                put(waiting, i, 0);
                put(held, layer, at(held, layer) - 1);
                left--;
                if (at(seen, place) <= cold) {
                    see(place, cold);
                    spread(price, place, cold);
                }
            }
        }

        void see(int place, int cold) {
            int swell = place % SWELLS;
            for (int i = 0; swell + i < SWELLS && at(seen, place + i) <= cold; i++) {
                put(seen, place + i, cold + 1);
            }
        }

        /** A try that stays in front only costs and swells, unless it cools: no best way has one. */
        void spread(int price, int place, int cold) {
            int used = place / SWELLS % THREADS;
            for (int kind = 0; kind <= COOLED; kind++) {
                stand(place, cold);
                boolean thread = kind == THREADED;
                boolean over = finger.goesOver(kind);
                if (!over && kind != COOLED || thread && used >= MOST_THREADED) {
                    continue;
                }
                finger.strain(kind);
                finger.front += over ? 1 : 0;
                arrive(price + movePrice(kind, gentle), thread ? used + 1 : used);
            }
            stand(place, cold);
            finger.rest(SHORT_WAIT);
            arrive(price + movePrice(WAIT, gentle), used);
        }

        void stand(int place, int cold) {
            finger.front = place / SWELLS / THREADS;
            finger.swell = place % SWELLS;
            finger.cold = cold;
        }
    }
}
