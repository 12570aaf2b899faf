/** Poor Man's Harbour. The words of the document (BERTH, THROW, WIND ..) are the words of this file. */
public final class TideDice {
    public static final int BAD = -1, STATE = -2, FULL = -3, NONE = -9;
    public static final int NO = -1000000;

    private static final int DICE = 3, PLAYERS = 2, IMAGES = 2;
    private static final int PIPS_MOST = 6, PIP_MOST = 9, THROWS_MOST = 216;
    private static final int BERTHS_LEAST = 3, BERTHS_MOST = 18, BERTHS_FIRST = 12;
    private static final int GOAL_MOST = 9, GOAL_FIRST = 4;
    private static final int TEXT_MOST = 120, BYTE_MOST = 255, FAULT_FROM = -10;
    private static final int TIDES_MOST = 999, UNDO_MOST = 12;
    private static final int CHALK_MOST = 6, CHALK_WHOLE = 216;
    private static final int LENT_WIND = 7;

    private final char[] text;
    private int typed;
    private final Told told;
    private final Reader reader;
    private final AllThrows all;
    private final Course course;
    private final Course[] images;
    private final boolean[] kept;
    private final int[] chalkBerth;
    private final int[] chalkThrows;
    private int chalked;
    private long traced;

    public TideDice() {
        text = new char[TEXT_MOST];
        told = new Told();
        reader = new Reader();
        all = new AllThrows();
        course = new Course(told);
        images = new Course[] {new Course(told), new Course(told)};
        kept = new boolean[IMAGES];
        chalkBerth = new int[CHALK_MOST];
        chalkThrows = new int[CHALK_MOST];
        all.makeOf(told);
    }

    // ---- the harbour

    public int type(int c) {
        if (c < 0 || c > BYTE_MOST) {
            return BAD;
        }
        if (typed >= TEXT_MOST) {
            return FULL;
        }
        text[typed] = (char) c;
        typed++;
        return typed;
    }

    public int clear() {
        int had = typed;
        typed = 0;
        return had;
    }

    public int harbour() {
        int items = reader.readItems(text, typed);
        if (reader.fault != NONE) {
            return FAULT_FROM - reader.fault;
        }
        told.becomes(reader.draft);
        all.makeOf(told);
        course.begin();
        for (int i = 0; i < IMAGES; i++) {
            kept[i] = false;
        }
        chalked = 0;
        typed = 0;
        return items;
    }

    public int die(int d, int i) {
        if (!isDie(d) || i < -1 || i >= told.many[d]) {
            return BAD;
        }
        return i == -1 ? told.many[d] : told.pip(d, i);
    }

    public int berth(int b) {
        return isBerth(b) ? course.owner(b) : BAD;
    }

    public int player(int p, int what) {
        if (p < 0 || p >= PLAYERS) {
            return BAD;
        }
        switch (what) {
            case 0: return course.berthsOf(p);
            case 1: return course.tidesOf(p);
            case 2: return course.isBlind(p) ? 1 : 0;
            case 3: return raceOf(p);
            default: return BAD;
        }
    }

    // ---- what is done

    public int throwsDice(int a, int b, int c) {
        if (!told.hasPip(0, a) || !told.hasPip(1, b) || !told.hasPip(2, c)) {
            return BAD;
        }
        if (course.lies() || course.winner() != NONE) {
            return STATE;
        }
        course.cast(a, b, c);
        return course.open();
    }

    public int takes(int b) {
        if (!isBerth(b)) {
            return BAD;
        }
        if (course.winner() != NONE || !hasBit(course.open(), b)) {
            return STATE;
        }
        return course.take(b);
    }

    public int passes() {
        if (!course.lies() || course.open() != 0 || course.winner() != NONE) {
            return STATE;
        }
        course.pass();
        return course.whoMoves();
    }

    public int leaves() {
        if (!course.lies() || course.winner() != NONE) {
            return STATE;
        }
        course.leave();
        return course.whoMoves();
    }

    public int undo() {
        if (course.known == 0) {
            return STATE;
        }
        course.stepBack();
        return course.known;
    }

    public int now(int what) {
        switch (what) {
            case 0: return course.whoMoves();
            case 1: return course.wind();
            case 2: return course.shown();
            case 3: return course.open();
            case 4: return course.winner();
            case 5: return course.tidesOf(0) - course.tidesOf(1);
            default: return NO;
        }
    }

    // ---- odds

    public int chance(int b, int what) {
        if (!isBerth(b) || !isPart(what)) {
            return BAD;
        }
        return partOf(throwsFor(b), all.many, what);
    }

    public int odds(int which, int what) {
        if (!isPart(what)) {
            return BAD;
        }
        int some = all.manyOpening(course.free(), course.wind());
        switch (which) {
            case 0: return partOf(all.many - some, all.many, what);
            case 1: return some == 0 ? NONE : partOf(all.many, some, what);
            case 2: return partOf(all.sumOpening(course.free(), course.wind()), all.many, what);
            default: return BAD;
        }
    }

    public int wise(int what) {
        if (!isPart(what)) {
            return BAD;
        }
        int open = course.open();
        int best = NONE;
        int fewest = NONE;
        for (int b = 1; b <= told.berths; b++) {
            if (hasBit(open, b)) {
                int left = all.manyOpening(course.free() & ~bit(b), course.wind());
                if (best == NONE || left < fewest) {
                    best = b;
                    fewest = left;
                }
            }
        }
        return what == 0 ? best : fewest;
    }

    public int cheap() {
        int open = course.open();
        int best = NONE;
        for (int b = 1; b <= told.berths; b++) {
            if (hasBit(open, b) && (best == NONE || course.tidesFor(b) < course.tidesFor(best))) {
                best = b;
            }
        }
        return best;
    }

    public int ever() {
        return all.ever;
    }

    // ---- chalk

    public int chalks(int b, int n) {
        if (!isBerth(b) || n < 0 || n > CHALK_WHOLE) {
            return BAD;
        }
        if (chalked >= CHALK_MOST) {
            return FULL;
        }
        chalkBerth[chalked] = b;
        chalkThrows[chalked] = n;
        chalked++;
        return chalked;
    }

    public int wipes() {
        int had = chalked;
        chalked = 0;
        return had;
    }

    public int wrong() {
        int bits = 0;
        for (int k = 0; k < chalked; k++) {
            if (offOf(k) != 0) {
                bits |= bit(k);
            }
        }
        return bits;
    }

    public int off(int k) {
        return k < 0 || k >= chalked ? NO : offOf(k);
    }

    public int bet() {
        int best = NONE;
        int farthest = 0;
        for (int k = 0; k < chalked; k++) {
            int far = Math.abs(offOf(k));
            if (far > farthest) {
                best = k;
                farthest = far;
            }
        }
        return best;
    }

    // ---- dice

    public int third(int x, int y, int b) {
        if (!told.hasPip(0, x) || !told.hasPip(1, y) || !isBerth(b)) {
            return BAD;
        }
        int bits = 0;
        for (int i = 0; i < told.many[2]; i++) {
            int pip = told.pip(2, i);
            if (hasBit(told.opens(x, y, pip, course.wind()), b)) {
                bits |= bit(pip);
            }
        }
        return bits;
    }

    public int threw(int b, int what) {
        if (!isBerth(b) || !isPart(what)) {
            return BAD;
        }
        return what == 0 ? all.manyStill(b, course.wind()) : all.firstStill(b, course.wind());
    }

    public int beats(int i, int j, int what) {
        if (!isDie(i) || !isDie(j) || i == j || !isPart(what)) {
            return BAD;
        }
        return partOf(told.winsOf(i, j), told.pairsOf(i, j), what);
    }

    public int ring() {
        if (told.mostlyWins(0, 1) && told.mostlyWins(1, 2) && told.mostlyWins(2, 0)) {
            return 1;
        }
        if (told.mostlyWins(1, 0) && told.mostlyWins(2, 1) && told.mostlyWins(0, 2)) {
            return 2;
        }
        return 0;
    }

    // ---- kinds, images

    public int mark(int kind, int b) {
        if (!isBerth(b)) {
            return NO;
        }
        switch (kind) {
            case 0: return berthMark(b);
            case 1: return shipMark(b);
            case 2: return quayMark(b);
            case 3: return coalMark(b);
            case 4: return lentMark(b);
            case 5: return pilotMark(b);
            default: return NO;
        }
    }

    public int keep(int image) {
        if (!isImage(image)) {
            return BAD;
        }
        images[image].becomes(course);
        kept[image] = true;
        return course.whoMoves();
    }

    public int back(int image) {
        if (!isImage(image)) {
            return BAD;
        }
        if (!kept[image]) {
            return STATE;
        }
        course.becomes(images[image]);
        return course.whoMoves();
    }

    public int count(int what) {
        switch (what) {
            case 0: return told.berths;
            case 1: return told.goal;
            case 2: return all.many;
            case 3: return chalked;
            case 4: return course.known;
            case 5: return typed;
            default: return BAD;
        }
    }

    public long trace() {
        return traced;
    }

    // ---- what the calls share

    private boolean isBerth(int b) {
        return b >= 1 && b <= told.berths;
    }

    private static boolean isDie(int d) {
        return d >= 0 && d < DICE;
    }

    private static boolean isImage(int image) {
        return image >= 0 && image < IMAGES;
    }

    /** A fraction has two parts, and so have the other answers of two numbers. */
    private static boolean isPart(int what) {
        return what == 0 || what == 1;
    }

    private static int bit(int place) {
        return 1 << place;
    }

    private static boolean hasBit(int bits, int place) {
        return (bits & bit(place)) != 0;
    }

    /** Upper (what = 0) or lower number of a fraction in least terms. */
    private static int partOf(int upper, int lower, int what) {
        int common = commonOf(upper, lower);
        int part = what == 0 ? upper : lower;
        return common == 0 ? part : part / common;
    }

    private static int commonOf(int a, int b) {
        int x = a;
        int y = b;
        // Euclid needs far fewer steps for any two ints.
        for (int step = 0; step < 100 && y != 0; step++) {
            int rest = x % y;
            x = y;
            y = rest;
        }
        return x;
    }

    /** Upper number of CHANCE, over all THROWS. */
    private int throwsFor(int b) {
        return all.manyOpening(course.free() & bit(b), course.wind());
    }

    private int offOf(int k) {
        return chalkThrows[k] * all.many - CHALK_WHOLE * throwsFor(chalkBerth[k]);
    }

    /** A turn berths one ship at most, so what is missing is how many turns it takes. */
    private int raceOf(int p) {
        int missing = told.goal - Integer.bitCount(course.berthsOf(p));
        if (missing <= 0) {
            return 0;
        }
        return Integer.bitCount(all.ever & course.free()) < missing ? NONE : missing;
    }

    private int berthMark(int b) {
        traced += 1;
        return b;
    }

    private int shipMark(int b) {
        traced += 10;
        return berthMark(b) + throwsFor(b);
    }

    private int quayMark(int b) {
        traced += 100;
        return berthMark(b) - Integer.bitCount(course.owned());
    }

    private int coalMark(int b) {
        traced += 1000;
        return shipMark(b) * 2;
    }

    private int lentMark(int b) {
        traced += 10000;
        return quayMark(b) + course.wind() * LENT_WIND;
    }

    private int pilotMark(int b) {
        traced += 100000;
        return berthMark(b) + course.tidesOf(0) + course.tidesOf(1);
    }

    /** What the text tells: the DICE, how many BERTHS, the GOAL. */
    private static final class Told {
        /** The PIPS of a DIE stand side by side, from PIPS_MOST times the DIE on. */
        final int[] pips;
        final int[] many;
        int berths;
        int goal;

        Told() {
            pips = new int[DICE * PIPS_MOST];
            many = new int[DICE];
            setFirst();
        }

        void setFirst() {
            for (int d = 0; d < DICE; d++) {
                for (int i = 0; i < PIPS_MOST; i++) {
                    pips[d * PIPS_MOST + i] = i + 1;
                }
                many[d] = PIPS_MOST;
            }
            berths = BERTHS_FIRST;
            goal = GOAL_FIRST;
        }

        void becomes(Told other) {
            System.arraycopy(other.pips, 0, pips, 0, pips.length);
            System.arraycopy(other.many, 0, many, 0, many.length);
            berths = other.berths;
            goal = other.goal;
        }

        int pip(int d, int i) {
            return pips[d * PIPS_MOST + i];
        }

        boolean hasPip(int d, int pip) {
            for (int i = 0; i < many[d]; i++) {
                if (pip(d, i) == pip) {
                    return true;
                }
            }
            return false;
        }

        /** The BERTHS (bits) that three PIPS open in a WIND, nobody having any. */
        int opens(int a, int b, int c, int wind) {
            return berthBit(a, wind) | berthBit(b, wind) | berthBit(c, wind)
                | berthBit(a + b, wind) | berthBit(a + c, wind) | berthBit(b + c, wind)
                | berthBit(a + b + c, wind);
        }

        private int berthBit(int sum, int wind) {
            if (sum < 1 || sum > berths) {
                return 0;
            }
            return bit(wind == 0 ? sum : berths + 1 - sum);
        }

        int pairsOf(int i, int j) {
            return many[i] * many[j];
        }

        int winsOf(int i, int j) {
            int wins = 0;
            for (int m = 0; m < many[i]; m++) {
                for (int n = 0; n < many[j]; n++) {
                    if (pip(i, m) > pip(j, n)) {
                        wins++;
                    }
                }
            }
            return wins;
        }

        /** Showing alike is not winning, so both DICE may fail to win mostly. */
        boolean mostlyWins(int i, int j) {
            return 2 * winsOf(i, j) > pairsOf(i, j);
        }
    }

    /** Reads THE TEXT into a draft, so that a FAULT leaves the harbour as it was. */
    private static final class Reader {
        private static final int END = 0, WORD = 1, NUMBER = 2, STOP = 3, ODD = 4;
        private static final int NUMBER_MOST = 99;

        final Told draft;
        int fault;
        private char[] text;
        private int length;
        private int kind;
        private int start;
        private int next;
        private int number;
        private int dice;
        private boolean berthsTold;
        private boolean goalTold;

        Reader() {
            draft = new Told();
            text = new char[0];
        }

        /** How many ITEMS; they count only if there is no fault. */
        int readItems(char[] bytes, int many) {
            text = bytes;
            length = Math.min(many, bytes.length);
            draft.setFirst();
            fault = NONE;
            next = 0;
            dice = 0;
            berthsTold = false;
            goalTold = false;
            advance();
            int items = 0;
            for (; items < length && kind != END && fault == NONE; items++) {
                readItem();
            }
            return items;
        }

        private void readItem() {
            char letter = kind == WORD && next - start == 1 ? text[start] : ' ';
            if (letter == 'd' && dice < DICE) {
                readDie();
            } else if (letter == 'b' && !berthsTold) {
                berthsTold = true;
                draft.berths = readNumber(BERTHS_LEAST, BERTHS_MOST);
            } else if (letter == 'g' && !goalTold) {
                goalTold = true;
                draft.goal = readNumber(1, GOAL_MOST);
            } else {
                refuse();
                return;
            }
            readStop();
        }

        private void readDie() {
            advance();
            int pips = 0;
            for (; pips < PIPS_MOST && isNumber(1, PIP_MOST); pips++) {
                draft.pips[dice * PIPS_MOST + pips] = number;
                advance();
            }
            if (pips == 0) {
                refuse();
            }
            draft.many[dice] = pips;
            dice++;
        }

        private int readNumber(int least, int most) {
            advance();
            if (!isNumber(least, most)) {
                refuse();
                return least;
            }
            int found = number;
            advance();
            return found;
        }

        private void readStop() {
            if (kind == STOP) {
                advance();
            } else {
                refuse();
            }
        }

        private boolean isNumber(int least, int most) {
            return kind == NUMBER && number >= least && number <= most;
        }

        /** The first refusal is the FAULT; at the END start is the text's length, as told. */
        private void refuse() {
            if (fault == NONE) {
                fault = start;
            }
        }

        private void advance() {
            start = next;
            while (start < length && text[start] == ' ') {
                start++;
            }
            if (start >= length) {
                kind = END;
                next = length;
            } else if (isLetter(start)) {
                kind = WORD;
                skipLetters();
            } else if (isDigit(start)) {
                scanNumber();
            } else {
                kind = text[start] == ';' ? STOP : ODD;
                next = start + 1;
            }
        }

        private void skipLetters() {
            next = start;
            while (next < length && isLetter(next)) {
                next++;
            }
        }

        private void scanNumber() {
            number = 0;
            next = start;
            while (next < length && isDigit(next)) {
                // Held just above the most, so that no row of digits can wrap around.
                number = Math.min(number * 10 + text[next] - '0', NUMBER_MOST + 1);
                next++;
            }
            boolean zeroAhead = text[start] == '0' && next - start > 1;
            kind = zeroAhead || number > NUMBER_MOST ? ODD : NUMBER;
        }

        private boolean isLetter(int place) {
            return text[place] >= 'a' && text[place] <= 'z';
        }

        private boolean isDigit(int place) {
            return text[place] >= '0' && text[place] <= '9';
        }
    }

    /** All THROWS in the order in which the PIPS are told, and what each one opens while nobody has a BERTH. */
    private static final class AllThrows {
        private final int[] shown;
        private final int[] calm;
        private final int[] windy;
        private final boolean[] turns;
        int many;
        int ever;

        AllThrows() {
            shown = new int[THROWS_MOST];
            calm = new int[THROWS_MOST];
            windy = new int[THROWS_MOST];
            turns = new boolean[THROWS_MOST];
        }

        void makeOf(Told told) {
            many = 0;
            ever = 0;
            for (int i = 0; i < told.many[0]; i++) {
                for (int j = 0; j < told.many[1]; j++) {
                    for (int k = 0; k < told.many[2]; k++) {
                        addThrow(told, told.pip(0, i), told.pip(1, j), told.pip(2, k));
                    }
                }
            }
        }

        private void addThrow(Told told, int a, int b, int c) {
            if (many >= THROWS_MOST) {
                return;
            }
            shown[many] = shownAs(a, b, c);
            calm[many] = told.opens(a, b, c, 0);
            windy[many] = told.opens(a, b, c, 1);
            turns[many] = alikePairs(a, b, c) == 1;
            ever |= calm[many] | windy[many];
            many++;
        }

        static int shownAs(int a, int b, int c) {
            return 100 * a + 10 * b + c;
        }

        /** 1 if just two of the three are alike, 3 if all are. */
        static int alikePairs(int a, int b, int c) {
            return (a == b ? 1 : 0) + (b == c ? 1 : 0) + (a == c ? 1 : 0);
        }

        private int opensStill(int t, int wind) {
            return wind == 0 ? calm[t] : windy[t];
        }

        private int opensThrown(int t, int wind) {
            return opensStill(t, turns[t] ? 1 - wind : wind);
        }

        /** How many THROWS, thrown in a WIND, open one or more of these BERTHS. */
        int manyOpening(int berths, int wind) {
            int found = 0;
            for (int t = 0; t < many; t++) {
                if ((opensThrown(t, wind) & berths) != 0) {
                    found++;
                }
            }
            return found;
        }

        /** How many of these BERTHS all THROWS, thrown in a WIND, open together. */
        int sumOpening(int berths, int wind) {
            int sum = 0;
            for (int t = 0; t < many; t++) {
                sum += Integer.bitCount(opensThrown(t, wind) & berths);
            }
            return sum;
        }

        int manyStill(int b, int wind) {
            int found = 0;
            for (int t = 0; t < many; t++) {
                if (hasBit(opensStill(t, wind), b)) {
                    found++;
                }
            }
            return found;
        }

        int firstStill(int b, int wind) {
            for (int t = 0; t < many; t++) {
                if (hasBit(opensStill(t, wind), b)) {
                    return shown[t];
                }
            }
            return NONE;
        }
    }

    /** NOW, and what may be UNDONE; an IMAGE is another one of these. */
    private static final class Course {
        // NOW is one row of numbers, so that UNDO and IMAGES copy it whole.
        private static final int BERTHS = 0, TIDES = 2, BLIND = 4, WIND = 6, MOVER = 7, SHOWN = 8, WIDTH = 9;

        private final Told told;
        private final int[] at;
        private final int[] past;
        int known;

        Course(Told told) {
            this.told = told;
            at = new int[WIDTH];
            past = new int[UNDO_MOST * WIDTH];
            begin();
        }

        void begin() {
            for (int i = 0; i < WIDTH; i++) {
                at[i] = 0;
            }
            at[SHOWN] = NONE;
            known = 0;
        }

        void becomes(Course other) {
            System.arraycopy(other.at, 0, at, 0, WIDTH);
            System.arraycopy(other.past, 0, past, 0, past.length);
            known = other.known;
        }

        private void remember() {
            if (known >= UNDO_MOST) {
                loseOldest();
            }
            System.arraycopy(at, 0, past, known * WIDTH, WIDTH);
            known++;
        }

        private void loseOldest() {
            for (int i = WIDTH; i < past.length; i++) {
                past[i - WIDTH] = past[i];
            }
            known = UNDO_MOST - 1;
        }

        void stepBack() {
            if (known > 0) {
                known--;
                System.arraycopy(past, known * WIDTH, at, 0, WIDTH);
            }
        }

        int berthsOf(int p) {
            return at[BERTHS + p];
        }

        int tidesOf(int p) {
            return at[TIDES + p];
        }

        boolean isBlind(int p) {
            return at[BLIND + p] != 0;
        }

        int wind() {
            return at[WIND];
        }

        int shown() {
            return at[SHOWN];
        }

        boolean lies() {
            return at[SHOWN] != NONE;
        }

        int owned() {
            return berthsOf(0) | berthsOf(1);
        }

        int free() {
            return ~owned();
        }

        int owner(int b) {
            for (int p = 0; p < PLAYERS; p++) {
                if (hasBit(berthsOf(p), b)) {
                    return p;
                }
            }
            return NONE;
        }

        /** Only who ends a turn gets BERTHS, so who has enough has WON. */
        int winner() {
            for (int p = 0; p < PLAYERS; p++) {
                if (Integer.bitCount(berthsOf(p)) >= told.goal) {
                    return p;
                }
            }
            return NONE;
        }

        int whoMoves() {
            return winner() == NONE ? at[MOVER] : NONE;
        }

        int open() {
            if (!lies()) {
                return 0;
            }
            int shown = shown();
            return told.opens(shown / 100, shown / 10 % 10, shown % 10, wind()) & free();
        }

        /** How many TIDES the other one gets if the one who moves takes a BERTH. */
        int tidesFor(int b) {
            return Integer.bitCount(berthsOf(1 - at[MOVER]) & (bit(b) - 1));
        }

        void cast(int a, int b, int c) {
            remember();
            at[SHOWN] = AllThrows.shownAs(a, b, c);
            int alike = AllThrows.alikePairs(a, b, c);
            if (alike == 1) {
                at[WIND] = 1 - at[WIND];
            } else if (alike == 3) {
                at[BLIND + at[MOVER]] = 1;
            }
        }

        int take(int b) {
            remember();
            int tides = tidesFor(b);
            at[BERTHS + at[MOVER]] |= bit(b);
            giveTides(1 - at[MOVER], tides);
            at[SHOWN] = NONE;
            endTurn();
            return tides;
        }

        void pass() {
            remember();
            at[SHOWN] = NONE;
            endTurn();
        }

        void leave() {
            remember();
            giveTides(1 - at[MOVER], 1);
            endTurn();
        }

        private void giveTides(int p, int tides) {
            at[TIDES + p] = Math.min(tidesOf(p) + tides, TIDES_MOST);
        }

        private void endTurn() {
            if (winner() != NONE) {
                return;
            }
            int other = 1 - at[MOVER];
            if (isBlind(other) && !lies()) {
                at[BLIND + other] = 0;
            } else {
                at[MOVER] = other;
            }
        }
    }
}
