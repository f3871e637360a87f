/**
 * A stair that moves by how many kneel on it. The words in capitals are those of the document
 * (DOC.md, its "Terms"); "behind n minutes" means when n more of them have gone by.
 */
public final class KneeStair {
    public static final int NONE = -1;

    private static final int NEVER = -2;
    private static final int NO_ANSWER = -10000;

    private static final int MOST_BYTES = 2000;
    private static final int BYTES_FED = 20;
    private static final int MOST_PILGRIMS = 8;
    private static final int SETS = 1 << MOST_PILGRIMS;
    private static final int MOST_TOKENS = 400;
    private static final int MOST_MINUTES = 300;
    private static final int MOST_REST_MINUTES = 100;
    private static final int MOST_MORE = 300;
    private static final int MOST_OIL_POURED = 99;
    private static final int MOST_OIL = 999;
    private static final int MOST_UNDONE = 50;
    private static final int MOST_TOLD = 20;
    private static final int MOST_STEP = 99;
    private static final int MOST_TOLD_MINUTE = 99;
    private static final int SLOTS = 3;

    private final byte[] tape = new byte[MOST_BYTES];
    private int taped = 0;
    private int faultPlace = NONE;
    private final Reader reader = new Reader();
    private final Text text = new Text();
    private final Stair now = new Stair(text);
    private final Past past = new Past(text);
    private final Forecast forecast = new Forecast(text, now);
    private final Witness witness = new Witness(text);
    private final Stair[] slots = new Stair[SLOTS];
    private final boolean[] held = new boolean[SLOTS];

    /** Nothing is told. */
    public KneeStair() {
        for (int slot = 0; slot < SLOTS; slot++) {
            slots[slot] = new Stair(text);
        }
        now.begin();
    }

    // ---- the tape and its text

    public int feed(int a, int b, int c, int d, int e) {
        if (taped + BYTES_FED > MOST_BYTES) {
            return NONE;
        }
        putWord(a);
        putWord(b);
        putWord(c);
        putWord(d);
        putWord(e);
        return taped;
    }

    private void putWord(int word) {
        for (int shift = 24; shift >= 0; shift -= 8) {
            tape[taped] = (byte) (word >> shift);
            taped++;
        }
    }

    public int back(int n) {
        if (n < 0 || n > taped) {
            return NONE;
        }
        taped -= n;
        return taped;
    }

    public int read() {
        int fault = reader.readTape(tape, taped);
        taped = 0;
        faultPlace = reader.place;
        if (fault == 0) {
            text.copyFrom(reader.draft);
            now.begin();
            past.clear();
            witness.clear();
            emptySlots();
        }
        return fault;
    }

    private void emptySlots() {
        for (int slot = 0; slot < SLOTS; slot++) {
            held[slot] = false;
        }
    }

    public int place() {
        return faultPlace;
    }

    // ---- what is now

    public int pilgrim(int pilgrim, int what) {
        if (!isPilgrim(pilgrim)) {
            return NO_ANSWER;
        }
        switch (what) {
            case 0: return now.step[pilgrim];
            case 1: return now.kneels[pilgrim] ? 1 : 0;
            case 2: return now.sore[pilgrim];
            case 3: return now.borne[pilgrim];
            case 4: return now.arrived[pilgrim];
            case 5: return now.hasNow(pilgrim);
            case 6: return text.knees[pilgrim];
            case 7: return text.wage[pilgrim];
            default: return NO_ANSWER;
        }
    }

    public int moves() {
        return now.movesNow();
    }

    public int most(int what) {
        if (!isOneOfTwo(what)) {
            return NONE;
        }
        if (text.pilgrims == 0) {
            return NEVER;
        }
        int who = 0;
        for (int p = 1; p < text.pilgrims; p++) {
            if (now.borne[p] > now.borne[who]) {
                who = p;
            }
        }
        return what == 0 ? who : now.borne[who];
    }

    public int rank(int pilgrim) {
        if (!isPilgrim(pilgrim)) {
            return NONE;
        }
        int ahead = 0;
        for (int p = 0; p < text.pilgrims; p++) {
            boolean sameStep = now.step[p] == now.step[pilgrim];
            if (now.step[p] > now.step[pilgrim] || sameStep && p < pilgrim) {
                ahead++;
            }
        }
        return ahead;
    }

    public int share(int pilgrim, boolean below) {
        if (!isPilgrim(pilgrim)) {
            return NONE;
        }
        int all = 0;
        for (int p = 0; p < text.pilgrims; p++) {
            all += now.borne[p];
        }
        int common = commonDivisor(all, now.borne[pilgrim]);
        if (common == 0) {
            return below ? 1 : 0;
        }
        return (below ? all : now.borne[pilgrim]) / common;
    }

    private static int commonDivisor(int one, int other) {
        int greater = one;
        int lesser = other;
        // Each two rounds halve the greater one: 32 bits need no more than 64.
        for (int i = 0; i < 64 && lesser != 0; i++) {
            int rest = greater % lesser;
            greater = lesser;
            lesser = rest;
        }
        return greater;
    }

    public int there(int step) {
        if (step < 0 || step > MOST_STEP) {
            return NONE;
        }
        int many = 0;
        for (int p = 0; p < text.pilgrims; p++) {
            if (now.step[p] == step) {
                many++;
            }
        }
        return many;
    }

    public int count(int what) {
        switch (what) {
            case 0: return text.pilgrims;
            case 1: return text.top;
            case 2: return now.minute;
            case 3: return text.pilgrims - now.howManyArrived();
            case 4: return now.howManyKneel();
            case 5: return now.oil;
            case 6: return now.moved;
            case 7: return taped;
            case 8: return past.size;
            case 9: return witness.size;
            case 10: return howManyHeld();
            default: return NO_ANSWER;
        }
    }

    private int howManyHeld() {
        int many = 0;
        for (int slot = 0; slot < SLOTS; slot++) {
            if (held[slot]) {
                many++;
            }
        }
        return many;
    }

    // ---- what is done, and undone

    public boolean kneel(int pilgrim) {
        if (!isPilgrim(pilgrim) || now.kneels[pilgrim] || !now.mayKneel(pilgrim)) {
            return false;
        }
        past.keep(now);
        now.kneels[pilgrim] = true;
        return true;
    }

    public boolean rise(int pilgrim) {
        if (!isPilgrim(pilgrim) || !now.kneels[pilgrim]) {
            return false;
        }
        past.keep(now);
        now.kneels[pilgrim] = false;
        return true;
    }

    public boolean board(int pilgrim) {
        if (!isPilgrim(pilgrim) || now.isOn(pilgrim)) {
            return false;
        }
        past.keep(now);
        now.arrived[pilgrim] = Stair.ON;
        now.step[pilgrim] = 0;
        return true;
    }

    public int oil(int n) {
        if (n < 1 || n > MOST_OIL_POURED || now.oil + n > MOST_OIL) {
            return NONE;
        }
        past.keep(now);
        now.oil += n;
        return now.oil;
    }

    public int run(int n) {
        if (n < 0 || n > MOST_MINUTES) {
            return NONE;
        }
        if (n > 0) {
            past.keep(now);
            now.pass(n);
        }
        return now.minute;
    }

    public boolean undo() {
        return past.giveBack(now);
    }

    public boolean hold(int slot) {
        if (slot < 0 || slot >= SLOTS) {
            return false;
        }
        slots[slot].copyFrom(now);
        held[slot] = true;
        return true;
    }

    public boolean restore(int slot) {
        if (slot < 0 || slot >= SLOTS || !held[slot]) {
            return false;
        }
        now.copyFrom(slots[slot]);
        past.clear();
        return true;
    }

    // ---- what would be

    public int arrives(int pilgrim) {
        return isPilgrim(pilgrim) ? forecast.arrivesBehind(pilgrim) : NONE;
    }

    public int still() {
        return forecast.stillBehind();
    }

    public int highest(int pilgrim, int n) {
        if (!isPilgrim(pilgrim) || n < 0 || n > MOST_MINUTES) {
            return NONE;
        }
        return forecast.highestOf(pilgrim, n);
    }

    public int first(int what) {
        return isOneOfTwo(what) ? forecast.firstToArrive(what) : NONE;
    }

    public int means(int one, int other, int n) {
        if (!isPilgrim(one) || !isPilgrim(other) || one == other || !isSpan(n)) {
            return NO_ANSWER;
        }
        return forecast.meansOf(one, other, n);
    }

    public int oiled(int pilgrim, int n) {
        return isPilgrim(pilgrim) && isSpan(n) ? forecast.leastOil(pilgrim, n) : NONE;
    }

    public int doubted(int pilgrim, int n) {
        return isPilgrim(pilgrim) && isSpan(n) ? forecast.greatestDoubt(pilgrim, n) : NONE;
    }

    public int bestStart(int pilgrim, int n, int what) {
        if (!isPilgrim(pilgrim) || !isSpan(n) || !isOneOfTwo(what) || !now.isOn(pilgrim)) {
            return NONE;
        }
        return forecast.bestStartOf(pilgrim, n, what);
    }

    public int meet(int one, int other) {
        if (!isPilgrim(one) || !isPilgrim(other) || one == other) {
            return NONE;
        }
        return forecast.meetBehind(one, other);
    }

    public int lowest(int n) {
        return n < 0 || n > MOST_MINUTES ? NONE : forecast.lowestIn(n);
    }

    public int bestTwo(int n, int what) {
        return isSpan(n) && isOneOfTwo(what) ? forecast.bestPair(n, what) : NONE;
    }

    public int exchange(int pilgrim, int n, int what) {
        if (!isPilgrim(pilgrim) || !isSpan(n) || !isOneOfTwo(what)) {
            return NONE;
        }
        return forecast.bestExchange(pilgrim, n, what);
    }

    public int kneelers(int k, int n, int what) {
        if (k < 1 || k > MOST_PILGRIMS || !isSpan(n) || !isOneOfTwo(what)) {
            return NONE;
        }
        return forecast.cheapestKneelers(k, n, what);
    }

    public int rests(int n, int i) {
        return n < 1 || n > MOST_REST_MINUTES || i < NONE ? NONE : forecast.restingSets(n, i);
    }

    // ---- what was seen

    public int tell(int pilgrim, int minute, int step) {
        boolean minuteIsRight = minute >= 0 && minute <= MOST_TOLD_MINUTE;
        boolean stepIsRight = step >= 0 && step <= MOST_STEP;
        if (!isPilgrim(pilgrim) || !minuteIsRight || !stepIsRight) {
            return NONE;
        }
        return witness.add(pilgrim, minute, step);
    }

    public int forget() {
        int many = witness.size;
        witness.clear();
        return many;
    }

    public int secret(int k, int i) {
        return k < 0 || k > witness.size || i < NONE ? NONE : witness.waysToRise(k, i);
    }

    public int off(int k) {
        return k < 0 || k > witness.size ? NONE : witness.firstNotSo(k);
    }

    // ---- what arguments may be

    private boolean isPilgrim(int pilgrim) {
        return pilgrim >= 0 && pilgrim < text.pilgrims;
    }

    private static boolean isSpan(int minutes) {
        return minutes >= 1 && minutes <= MOST_MINUTES;
    }

    private static boolean isOneOfTwo(int what) {
        return what == 0 || what == 1;
    }

    /** A LAW, as a row of codes for a stack; later codes never lead back to earlier ones. */
    static final class Law {
        static final int PUSH = 0;
        static final int LOOK = 1;
        static final int ADD = 2;
        static final int SUBTRACT = 3;
        static final int MULTIPLY = 4;
        static final int DIVIDE = 5;
        static final int SKIP_UNLESS_LESS = 6;
        static final int END = 7;

        static final int KNEES = 0;
        static final int DOUBT = 1;
        static final int OILED = 2;
        static final int MINUTE = 3;
        static final int ON = 4;
        static final int STEP = 5;
        static final int SORE = 6;
        static final int BORNE = 7;
        static final int VARS = 8;

        // Two wait at each of six levels of ( ), three within the last, one in front of a '<'.
        private static final int MOST_WAITING = 24;

        final int[] code = new int[MOST_TOKENS];
        final int[] value = new int[MOST_TOKENS];
        int length = 0;
        /** What the VARs are; who asks what the LAW tells sets it ahead. */
        final int[] seen = new int[VARS];
        private final int[] waiting = new int[MOST_WAITING];

        void clear() {
            length = 0;
        }

        /** Where it stands in the row. */
        int put(int newCode, int newValue) {
            // A LAW has no more codes than TOKENS, so it never grows beyond its row.
            if (length < MOST_TOKENS) {
                code[length] = newCode;
                value[length] = newValue;
                length++;
            }
            return length - 1;
        }

        /** What is put next is gone on with, if the '<' at a place does not hold. */
        void skipToHere(int place) {
            if (place >= 0 && place < length) {
                value[place] = length;
            }
        }

        boolean looksAt(int someVar) {
            for (int at = 0; at < length; at++) {
                if (code[at] == LOOK && value[at] == someVar) {
                    return true;
                }
            }
            return false;
        }

        void copyFrom(Law other) {
            System.arraycopy(other.code, 0, code, 0, other.length);
            System.arraycopy(other.value, 0, value, 0, other.length);
            length = other.length;
        }

        int tellsNow() {
            int height = 0;
            for (int at = 0; at < length && code[at] != END; at++) {
                int what = code[at];
                if (what == PUSH || what == LOOK) {
                    if (height >= MOST_WAITING) {
                        return 0;
                    }
                    waiting[height] = what == PUSH ? value[at] : varSeen(value[at]);
                    height++;
                    continue;
                }
                if (height < 2) {
                    return 0;
                }
                int right = waiting[height - 1];
                int left = waiting[height - 2];
                if (what == SKIP_UNLESS_LESS) {
                    height -= 2;
                    if (left >= right) {
                        // The loop steps on by one; it only ever goes forward.
                        at = Math.max(at, value[at] - 1);
                    }
                } else if (what == DIVIDE && right == 0) {
                    return 0;
                } else {
                    height--;
                    waiting[height - 1] = reckon(what, left, right);
                }
            }
            return height > 0 ? waiting[height - 1] : 0;
        }

        private int varSeen(int someVar) {
            return someVar >= 0 && someVar < VARS ? seen[someVar] : 0;
        }

        private static int reckon(int what, int left, int right) {
            switch (what) {
                case ADD: return left + right;
                case SUBTRACT: return left - right;
                case MULTIPLY: return left * right;
                default: return right == 0 ? 0 : left / right;
            }
        }
    }

    /** What a text tells. */
    static final class Text {
        private static final int USUAL_TOP = 20;

        int top = 0;
        int oil = 0;
        int pilgrims = 0;
        final int[] step = new int[MOST_PILGRIMS];
        final int[] knees = new int[MOST_PILGRIMS];
        final int[] doubt = new int[MOST_PILGRIMS];
        final int[] sorest = new int[MOST_PILGRIMS];
        final int[] wage = new int[MOST_PILGRIMS];
        final boolean[] kneels = new boolean[MOST_PILGRIMS];
        final Law moves = new Law();
        final Law has = new Law();

        Text() {
            clear();
        }

        /** As an empty text tells it. */
        void clear() {
            top = USUAL_TOP;
            oil = 0;
            pilgrims = 0;
            moves.clear();
            moves.put(Law.LOOK, Law.KNEES);
            moves.put(Law.LOOK, Law.DOUBT);
            moves.put(Law.SUBTRACT, 0);
            has.clear();
            has.put(Law.LOOK, Law.STEP);
        }

        void copyFrom(Text other) {
            top = other.top;
            oil = other.oil;
            pilgrims = other.pilgrims;
            for (int p = 0; p < pilgrims; p++) {
                step[p] = other.step[p];
                knees[p] = other.knees[p];
                doubt[p] = other.doubt[p];
                sorest[p] = other.sorest[p];
                wage[p] = other.wage[p];
                kneels[p] = other.kneels[p];
            }
            moves.copyFrom(other.moves);
            has.copyFrom(other.has);
        }
    }

    /** The TOKENS of a tape, up to its end, to what is no TOKEN, or to the 401st. */
    static final class Tokens {
        /** A SIGN's kind is its byte; a word's is WORD and its number among WORDS. */
        static final int WORD = 256;
        static final int STAIR = WORD;
        static final int PILGRIM = WORD + 1;
        static final int KNEELS = WORD + 2;
        static final int MOVES = WORD + 3;
        static final int HAS = WORD + 4;
        static final int OIL = WORD + 5;
        static final int IF = WORD + 6;
        static final int THEN = WORD + 7;
        static final int ELSE = WORD + 8;
        static final int FIRST_VAR = WORD + 9;
        static final int NAME = 300;
        static final int INT = 301;
        static final int END = 302;
        static final int NO_TOKEN = 303;

        private static final int MOST_LETTERS = 8;
        private static final int MOST_DIGITS = 4;
        private static final String SIGNS = ";=+-*/<()";
        /** The words in quotes, each in MOST_LETTERS places; the VARs last, as Law numbers them. */
        private static final String WORDS =
                "stair   pilgrim kneels  moves   has     oil     if      then    else    knees   doubt   oiled   minute  on      step    sore    borne   ";

        final int[] kind = new int[MOST_TOKENS + 1];
        final int[] place = new int[MOST_TOKENS + 1];
        /** An INT's number; a NAME as a number, its letters being digits 1 .. 26. */
        final long[] value = new long[MOST_TOKENS + 1];

        void scan(byte[] bytes, int length) {
            int at = 0;
            for (int i = 0; i <= MOST_TOKENS; i++) {
                at = behindBlanks(bytes, at, length);
                place[i] = at;
                value[i] = 0;
                if (at >= length) {
                    kind[i] = END;
                    return;
                }
                at = scanToken(i, bytes, at, length);
                if (kind[i] == NO_TOKEN) {
                    return;
                }
            }
        }

        private static int behindBlanks(byte[] bytes, int from, int length) {
            int at = from;
            while (at < length && isBlank(bytes[at])) {
                at++;
            }
            return at;
        }

        /** Where what comes behind it begins. */
        private int scanToken(int i, byte[] bytes, int from, int length) {
            byte sign = bytes[from];
            if (isLetter(sign)) {
                return scanLetters(i, bytes, from, length);
            }
            if (isDigit(sign)) {
                return scanDigits(i, bytes, from, length);
            }
            boolean isSign = sign > 0 && SIGNS.indexOf((char) sign) >= 0;
            kind[i] = isSign ? sign : NO_TOKEN;
            return from + 1;
        }

        private int scanLetters(int i, byte[] bytes, int from, int length) {
            int to = from;
            long letters = 0;
            while (to < length && isLetter(bytes[to])) {
                // It wraps only where there are too many letters for a NAME anyway.
                letters = letters * 27 + (bytes[to] - 'a' + 1);
                to++;
            }
            value[i] = letters;
            kind[i] = to - from > MOST_LETTERS ? NO_TOKEN : wordKind(bytes, from, to);
            return to;
        }

        private int scanDigits(int i, byte[] bytes, int from, int length) {
            int to = from;
            long number = 0;
            while (to < length && isDigit(bytes[to])) {
                number = number * 10 + (bytes[to] - '0');
                to++;
            }
            value[i] = number;
            kind[i] = to - from > MOST_DIGITS ? NO_TOKEN : INT;
            return to;
        }

        private static int wordKind(byte[] bytes, int from, int to) {
            for (int word = 0; word * MOST_LETTERS < WORDS.length(); word++) {
                if (isWord(word, bytes, from, to)) {
                    return WORD + word;
                }
            }
            return NAME;
        }

        private static boolean isWord(int word, byte[] bytes, int from, int to) {
            for (int i = 0; i < MOST_LETTERS; i++) {
                int letter = from + i < to ? bytes[from + i] : ' ';
                if (WORDS.charAt(word * MOST_LETTERS + i) != letter) {
                    return false;
                }
            }
            return true;
        }

        private static boolean isBlank(byte sign) {
            return sign == 9 || sign == 10 || sign == 13 || sign == 32;
        }

        private static boolean isLetter(byte sign) {
            return sign >= 'a' && sign <= 'z';
        }

        private static boolean isDigit(byte sign) {
            return sign >= '0' && sign <= '9';
        }
    }

    /** Reads a tape into a draft of its text, or tells its first FAULT. */
    static final class Reader {
        private static final int SYNTAX = 1;
        private static final int ROOM = 2;
        private static final int TWICE = 3;
        private static final int WRONG = 5;

        private static final int MOST_IFS = 4;
        private static final int MOST_OPEN = 6;
        private static final int MOST_TOP = 99;
        private static final int MOST_KNEES = 4;
        private static final int MOST_DOUBT = 9;
        private static final int MOST_SORE = 99;
        private static final int MOST_WAGE = 99;
        private static final int MOST_OIL_TOLD = 99;

        final Text draft = new Text();
        /** The byte of the FAULT, or NONE. */
        int place = NONE;
        private final Tokens tokens = new Tokens();
        private final long[] names = new long[MOST_PILGRIMS];
        private int at = 0;
        private int fault = 0;
        private int lateFault = 0;
        private int latePlace = NONE;

        /** 0, or the number of the FAULT. */
        int readTape(byte[] bytes, int length) {
            at = 0;
            fault = 0;
            place = NONE;
            lateFault = 0;
            latePlace = NONE;
            draft.clear();
            tokens.scan(bytes, length);
            // Each TELL takes a TOKEN at least, or fails.
            for (int tells = 0; tells <= MOST_TOKENS && fault == 0 && kind() != Tokens.END; tells++) {
                readTell();
            }
            if (fault == 0 && lateFault != 0) {
                fault = lateFault;
                place = latePlace;
            }
            return fault;
        }

        /** Behind a FAULT nothing is what is looked for. */
        private int kind() {
            return fault == 0 ? tokens.kind[at] : Tokens.NO_TOKEN;
        }

        private void fail(int number) {
            if (fault == 0) {
                fault = number;
                place = tokens.place[at];
            }
        }

        /** TWICE and WRONG count only where the whole text has no SYNTAX and no ROOM. */
        private void failLate(int number) {
            if (lateFault == 0) {
                lateFault = number;
                latePlace = tokens.place[at];
            }
        }

        /** Goes on behind a TOKEN that may stand here. */
        private void take() {
            if (at < MOST_TOKENS) {
                at++;
            } else {
                fail(ROOM);
            }
        }

        private void want(int wanted) {
            if (kind() == wanted) {
                take();
            } else {
                fail(SYNTAX);
            }
        }

        private int wantNumber(int least, int greatest) {
            if (kind() != Tokens.INT) {
                fail(SYNTAX);
                return least;
            }
            int number = (int) tokens.value[at];
            if (number < least || number > greatest) {
                failLate(WRONG);
            }
            take();
            return number;
        }

        private void readTell() {
            switch (kind()) {
                case Tokens.STAIR:
                    take();
                    draft.top = wantNumber(1, MOST_TOP);
                    break;
                case Tokens.PILGRIM:
                    readPilgrim();
                    break;
                case Tokens.MOVES:
                    take();
                    readLaw(draft.moves);
                    break;
                case Tokens.HAS:
                    take();
                    readLaw(draft.has);
                    break;
                case Tokens.OIL:
                    take();
                    draft.oil = wantNumber(0, MOST_OIL_TOLD);
                    break;
                default:
                    fail(SYNTAX);
                    break;
            }
            want(';');
        }

        private void readPilgrim() {
            int p = draft.pilgrims;
            if (p >= MOST_PILGRIMS) {
                fail(ROOM);
                return;
            }
            take();
            names[p] = wantName();
            draft.step[p] = wantNumber(0, MOST_STEP);
            draft.knees[p] = wantNumber(0, MOST_KNEES);
            draft.doubt[p] = wantNumber(0, MOST_DOUBT);
            draft.sorest[p] = wantNumber(1, MOST_SORE);
            draft.wage[p] = wantNumber(0, MOST_WAGE);
            draft.kneels[p] = kind() == Tokens.KNEELS;
            if (draft.kneels[p]) {
                take();
            }
            draft.pilgrims++;
        }

        private long wantName() {
            if (kind() != Tokens.NAME) {
                fail(SYNTAX);
                return 0;
            }
            long name = tokens.value[at];
            if (isNameTold(name)) {
                failLate(TWICE);
            }
            take();
            return name;
        }

        private boolean isNameTold(long name) {
            for (int p = 0; p < draft.pilgrims; p++) {
                if (names[p] == name) {
                    return true;
                }
            }
            return false;
        }

        private void readLaw(Law law) {
            law.clear();
            want('=');
            for (int ifs = 0; ifs <= MOST_IFS && kind() == Tokens.IF; ifs++) {
                if (ifs == MOST_IFS) {
                    fail(ROOM);
                    return;
                }
                take();
                readSum(law, 0);
                want('<');
                readSum(law, 0);
                int lessAt = law.put(Law.SKIP_UNLESS_LESS, 0);
                want(Tokens.THEN);
                readSum(law, 0);
                want(Tokens.ELSE);
                law.put(Law.END, 0);
                law.skipToHere(lessAt);
            }
            readSum(law, 0);
        }

        /** An E that stands within so many open ( . */
        private void readSum(Law law, int open) {
            readProduct(law, open);
            for (int i = 0; i < MOST_TOKENS && (kind() == '+' || kind() == '-'); i++) {
                int code = kind() == '+' ? Law.ADD : Law.SUBTRACT;
                take();
                readProduct(law, open);
                law.put(code, 0);
            }
        }

        private void readProduct(Law law, int open) {
            readUnit(law, open);
            for (int i = 0; i < MOST_TOKENS && (kind() == '*' || kind() == '/'); i++) {
                int code = kind() == '*' ? Law.MULTIPLY : Law.DIVIDE;
                take();
                readUnit(law, open);
                law.put(code, 0);
            }
        }

        private void readUnit(Law law, int open) {
            int kind = kind();
            if (kind == Tokens.INT) {
                law.put(Law.PUSH, (int) tokens.value[at]);
                take();
            } else if (kind >= Tokens.FIRST_VAR && kind < Tokens.FIRST_VAR + Law.VARS) {
                law.put(Law.LOOK, kind - Tokens.FIRST_VAR);
                take();
            } else if (kind != '(') {
                fail(SYNTAX);
            } else if (open >= MOST_OPEN) {
                fail(ROOM);
            } else {
                take();
                readSum(law, open + 1);
                want(')');
            }
        }
    }

    /** PILGRIMS, OIL and the minute, as they are or as they would be. */
    static final class Stair {
        /** In which MINUTE one ARRIVED who is ON it. */
        static final int ON = -2;

        private static final int FARTHEST = 9;
        private static final int MOST_HAD = 9999;

        private final Text text;
        final int[] step = new int[MOST_PILGRIMS];
        final boolean[] kneels = new boolean[MOST_PILGRIMS];
        final int[] sore = new int[MOST_PILGRIMS];
        final int[] borne = new int[MOST_PILGRIMS];
        final int[] arrived = new int[MOST_PILGRIMS];
        int oil = 0;
        int minute = 0;
        int moved = 0;
        /** DOUBT of one who is not counted as ON it. */
        int doubtMore = 0;

        Stair(Text text) {
            this.text = text;
        }

        /** As the text tells it. */
        void begin() {
            for (int p = 0; p < text.pilgrims; p++) {
                step[p] = text.step[p];
                kneels[p] = text.kneels[p];
                sore[p] = 0;
                borne[p] = 0;
                arrived[p] = ON;
                if (step[p] >= text.top) {
                    arriveIn(p, 0);
                }
            }
            oil = text.oil;
            minute = 0;
            moved = 0;
            doubtMore = 0;
        }

        void copyFrom(Stair other) {
            for (int p = 0; p < text.pilgrims; p++) {
                step[p] = other.step[p];
                kneels[p] = other.kneels[p];
                sore[p] = other.sore[p];
                borne[p] = other.borne[p];
                arrived[p] = other.arrived[p];
            }
            oil = other.oil;
            minute = other.minute;
            moved = other.moved;
            doubtMore = other.doubtMore;
        }

        boolean isOn(int p) {
            return arrived[p] == ON;
        }

        /** Whether he is ON it and less SORE than he may get, kneeling already or not. */
        boolean mayKneel(int p) {
            return isOn(p) && sore[p] < text.sorest[p];
        }

        int whoMayKneel() {
            int bits = 0;
            for (int p = 0; p < text.pilgrims; p++) {
                if (mayKneel(p)) {
                    bits |= 1 << p;
                }
            }
            return bits;
        }

        void letKneelJust(int bits) {
            for (int p = 0; p < text.pilgrims; p++) {
                kneels[p] = (bits >> p & 1) == 1;
            }
        }

        void takeAway(int p) {
            if (isOn(p)) {
                arriveIn(p, minute);
            }
        }

        int howManyArrived() {
            int many = 0;
            for (int p = 0; p < text.pilgrims; p++) {
                if (!isOn(p)) {
                    many++;
                }
            }
            return many;
        }

        int howManyKneel() {
            int many = 0;
            for (int p = 0; p < text.pilgrims; p++) {
                if (kneels[p]) {
                    many++;
                }
            }
            return many;
        }

        int movesNow() {
            int[] seen = text.moves.seen;
            lookAround(seen);
            seen[Law.STEP] = 0;
            seen[Law.SORE] = 0;
            seen[Law.BORNE] = 0;
            return heldTo(FARTHEST, text.moves.tellsNow());
        }

        int hasNow(int p) {
            int[] seen = text.has.seen;
            lookAround(seen);
            seen[Law.STEP] = step[p];
            seen[Law.SORE] = sore[p];
            seen[Law.BORNE] = borne[p];
            return heldTo(MOST_HAD, text.has.tellsNow());
        }

        private static int heldTo(int most, int number) {
            return Math.max(-most, Math.min(most, number));
        }

        private void lookAround(int[] seen) {
            int knees = 0;
            int doubt = doubtMore;
            int on = 0;
            for (int p = 0; p < text.pilgrims; p++) {
                if (isOn(p)) {
                    on++;
                    knees += kneels[p] ? text.knees[p] : 0;
                    doubt += kneels[p] ? 0 : text.doubt[p];
                }
            }
            seen[Law.KNEES] = knees;
            seen[Law.DOUBT] = doubt;
            seen[Law.OILED] = oil;
            seen[Law.MINUTE] = minute;
            seen[Law.ON] = on;
        }

        void pass(int minutes) {
            for (int i = 0; i < minutes; i++) {
                int far = movesNow();
                for (int p = 0; p < text.pilgrims; p++) {
                    if (isOn(p)) {
                        carry(p, far);
                    }
                }
                oil = Math.max(0, oil - 1);
                moved += far;
                minute++;
            }
        }

        private void carry(int p, int far) {
            if (kneels[p] && far > 0) {
                borne[p] += text.knees[p] * far;
            }
            step[p] = Math.max(0, step[p] + far);
            if (step[p] >= text.top) {
                arriveIn(p, minute);
            } else if (kneels[p]) {
                sore[p]++;
                kneels[p] = sore[p] < text.sorest[p];
            } else {
                sore[p] = Math.max(0, sore[p] - 1);
            }
        }

        private void arriveIn(int p, int inMinute) {
            step[p] = text.top;
            arrived[p] = inMinute;
            kneels[p] = false;
        }
    }

    /** The last things done: how all was ahead of each. */
    static final class Past {
        private final Stair[] kept = new Stair[MOST_UNDONE];
        private int next = 0;
        int size = 0;

        Past(Text text) {
            for (int i = 0; i < MOST_UNDONE; i++) {
                kept[i] = new Stair(text);
            }
        }

        void clear() {
            size = 0;
        }

        /** What was kept first goes, if there is no room. */
        void keep(Stair now) {
            kept[next].copyFrom(now);
            next = (next + 1) % MOST_UNDONE;
            size = Math.min(MOST_UNDONE, size + 1);
        }

        boolean giveBack(Stair now) {
            if (size == 0) {
                return false;
            }
            next = (next + MOST_UNDONE - 1) % MOST_UNDONE;
            size--;
            now.copyFrom(kept[next]);
            return true;
        }
    }

    /** What would be, tried out on a stair of its own. */
    static final class Forecast {
        private final Text text;
        private final Stair now;
        private final Stair trial;
        /** What each has in the end, for each set of those who kneel. */
        private final int[] gains = new int[SETS * MOST_PILGRIMS];

        Forecast(Text text, Stair now) {
            this.text = text;
            this.now = now;
            this.trial = new Stair(text);
        }

        int arrivesBehind(int p) {
            return arrivalBehind(p, 0, 0, MOST_MINUTES);
        }

        /** Behind how many of n minutes one has ARRIVED, with more OIL now and more DOUBT each minute. */
        private int arrivalBehind(int p, int oilMore, int doubtMore, int n) {
            trial.copyFrom(now);
            trial.oil += oilMore;
            trial.doubtMore = doubtMore;
            for (int gone = 0; gone <= n; gone++) {
                if (!trial.isOn(p)) {
                    return gone;
                }
                trial.pass(1);
            }
            return NEVER;
        }

        int stillBehind() {
            trial.copyFrom(now);
            for (int gone = 0; gone <= MOST_MINUTES; gone++) {
                if (trial.movesNow() == 0) {
                    return gone;
                }
                trial.pass(1);
            }
            return NEVER;
        }

        int highestOf(int p, int n) {
            trial.copyFrom(now);
            int greatest = trial.step[p];
            for (int gone = 0; gone < n; gone++) {
                trial.pass(1);
                greatest = Math.max(greatest, trial.step[p]);
            }
            return greatest;
        }

        int firstToArrive(int what) {
            trial.copyFrom(now);
            for (int gone = 1; gone <= MOST_MINUTES; gone++) {
                trial.pass(1);
                for (int p = 0; p < text.pilgrims; p++) {
                    if (now.isOn(p) && !trial.isOn(p)) {
                        return what == 0 ? p : gone;
                    }
                }
            }
            return NEVER;
        }

        int meansOf(int one, int other, int n) {
            trial.copyFrom(now);
            trial.pass(n);
            int with = trial.step[other];
            trial.copyFrom(now);
            trial.takeAway(one);
            trial.pass(n);
            return with - trial.step[other];
        }

        int leastOil(int p, int n) {
            // Where MOVES does not look at it, no more of it changes anything.
            int most = text.moves.looksAt(Law.OILED) ? MOST_MORE : 0;
            for (int more = 0; more <= most; more++) {
                if (arrivalBehind(p, more, 0, n) != NEVER) {
                    return more;
                }
            }
            return NEVER;
        }

        int greatestDoubt(int p, int n) {
            int least = text.moves.looksAt(Law.DOUBT) ? 0 : MOST_MORE;
            for (int more = MOST_MORE; more >= least; more--) {
                if (arrivalBehind(p, 0, more, n) != NEVER) {
                    return more;
                }
            }
            return NEVER;
        }

        int bestStartOf(int p, int n, int what) {
            int best = 0;
            int bestStep = NONE;
            for (int start = 0; start < n; start++) {
                int step = stepKneelingFrom(p, start, n);
                if (step > bestStep) {
                    best = start;
                    bestStep = step;
                }
            }
            return what == 0 ? best : bestStep;
        }

        private int stepKneelingFrom(int p, int start, int n) {
            trial.copyFrom(now);
            trial.kneels[p] = false;
            trial.pass(start);
            trial.kneels[p] = trial.mayKneel(p);
            trial.pass(n - start);
            return trial.step[p];
        }

        int meetBehind(int one, int other) {
            trial.copyFrom(now);
            for (int gone = 0; gone <= MOST_MINUTES; gone++) {
                if (trial.step[one] == trial.step[other]) {
                    return gone;
                }
                trial.pass(1);
            }
            return NEVER;
        }

        int lowestIn(int n) {
            trial.copyFrom(now);
            int least = NEVER;
            for (int gone = 0; gone <= n; gone++) {
                for (int p = 0; p < text.pilgrims; p++) {
                    if (trial.isOn(p) && (least == NEVER || trial.step[p] < least)) {
                        least = trial.step[p];
                    }
                }
                trial.pass(1);
            }
            return least;
        }

        private void tryKneelers(int bits, int n) {
            trial.copyFrom(now);
            trial.letKneelJust(bits);
            trial.pass(n);
        }

        int bestPair(int n, int what) {
            int best = NEVER;
            int bestSteps = NEVER;
            for (int one = 0; one < text.pilgrims; one++) {
                for (int other = one + 1; other < text.pilgrims; other++) {
                    if (!now.mayKneel(one) || !now.mayKneel(other)) {
                        continue;
                    }
                    tryKneelers(1 << one | 1 << other, n);
                    int steps = allSteps();
                    if (steps > bestSteps) {
                        best = 10 * one + other;
                        bestSteps = steps;
                    }
                }
            }
            return what == 0 ? bestSteps : best;
        }

        private int allSteps() {
            int steps = 0;
            for (int p = 0; p < text.pilgrims; p++) {
                steps += trial.step[p];
            }
            return steps;
        }

        int bestExchange(int pilgrim, int n, int what) {
            trial.copyFrom(now);
            trial.pass(n);
            int best = NEVER;
            int bestStep = trial.step[pilgrim];
            for (int riser = 0; riser < text.pilgrims; riser++) {
                for (int kneeler = 0; kneeler < text.pilgrims; kneeler++) {
                    if (!now.kneels[riser] || now.kneels[kneeler] || !now.mayKneel(kneeler)) {
                        continue;
                    }
                    int step = stepWithExchange(pilgrim, riser, kneeler, n);
                    if (step > bestStep) {
                        best = 10 * riser + kneeler;
                        bestStep = step;
                    }
                }
            }
            return best == NEVER || what == 0 ? best : bestStep;
        }

        private int stepWithExchange(int pilgrim, int riser, int kneeler, int n) {
            trial.copyFrom(now);
            trial.kneels[riser] = false;
            trial.kneels[kneeler] = true;
            trial.pass(n);
            return trial.step[pilgrim];
        }

        int cheapestKneelers(int k, int n, int what) {
            int may = now.whoMayKneel();
            int goal = now.howManyArrived() + k;
            int best = NONE;
            for (int bits = 0; bits < SETS && goal <= text.pilgrims; bits++) {
                boolean isAsked = (bits & ~may) == 0 && (best == NONE || isCheaper(bits, best));
                if (isAsked) {
                    tryKneelers(bits, n);
                    best = trial.howManyArrived() >= goal ? bits : best;
                }
            }
            if (best == NONE) {
                return NEVER;
            }
            return what == 0 ? sumOf(text.wage, best) : best;
        }

        /** Of alike ones the one of the least bits has come first, so it stays. */
        private boolean isCheaper(int bits, int best) {
            int wages = sumOf(text.wage, bits);
            int bestWages = sumOf(text.wage, best);
            boolean hasFewerKnees = sumOf(text.knees, bits) < sumOf(text.knees, best);
            return wages < bestWages || wages == bestWages && hasFewerKnees;
        }

        private int sumOf(int[] row, int bits) {
            int sum = 0;
            for (int p = 0; p < text.pilgrims; p++) {
                sum += (bits >> p & 1) == 1 ? row[p] : 0;
            }
            return sum;
        }

        /** How many sets, or the i-th of them. */
        int restingSets(int n, int i) {
            int may = now.whoMayKneel();
            for (int bits = 0; bits < SETS; bits++) {
                if ((bits & ~may) == 0) {
                    tryKneelers(bits, n);
                    for (int p = 0; p < text.pilgrims; p++) {
                        gains[bits * MOST_PILGRIMS + p] = trial.hasNow(p);
                    }
                }
            }
            int sets = 0;
            for (int bits = 0; bits < SETS; bits++) {
                if ((bits & ~may) == 0 && isRest(bits, may)) {
                    if (sets == i) {
                        return bits;
                    }
                    sets++;
                }
            }
            return i == NONE ? sets : NONE;
        }

        private boolean isRest(int bits, int may) {
            for (int p = 0; p < text.pilgrims; p++) {
                int otherBits = bits ^ 1 << p;
                boolean mayChange = (may >> p & 1) == 1;
                if (mayChange && gains[otherBits * MOST_PILGRIMS + p] > gains[bits * MOST_PILGRIMS + p]) {
                    return false;
                }
            }
            return true;
        }
    }

    /** What is TOLD, held against what the text would have had happen. */
    static final class Witness {
        private final Text text;
        private final Stair trial;
        private final int[] pilgrim = new int[MOST_TOLD];
        private final int[] minute = new int[MOST_TOLD];
        private final int[] step = new int[MOST_TOLD];
        int size = 0;

        Witness(Text text) {
            this.text = text;
            this.trial = new Stair(text);
        }

        void clear() {
            size = 0;
        }

        int add(int newPilgrim, int newMinute, int newStep) {
            if (size >= MOST_TOLD) {
                return NONE;
            }
            pilgrim[size] = newPilgrim;
            minute[size] = newMinute;
            step[size] = newStep;
            size++;
            return size - 1;
        }

        private int lastMinute(int k) {
            int last = NONE;
            for (int i = 0; i < k; i++) {
                last = Math.max(last, minute[i]);
            }
            return last;
        }

        int firstNotSo(int k) {
            int last = lastMinute(k);
            int least = NEVER;
            trial.begin();
            for (int gone = 0; gone <= last; gone++) {
                trial.pass(1);
                int notSo = firstNotSoBehind(gone, k);
                if (notSo != NEVER && (least == NEVER || notSo < least)) {
                    least = notSo;
                }
            }
            return least;
        }

        private int firstNotSoBehind(int someMinute, int k) {
            for (int i = 0; i < k; i++) {
                if (minute[i] == someMinute && trial.step[pilgrim[i]] != step[i]) {
                    return i;
                }
            }
            return NEVER;
        }

        /** How many ways, or the i-th of them. */
        int waysToRise(int k, int i) {
            int last = lastMinute(k);
            int ways = 0;
            for (int p = 0; p < text.pilgrims; p++) {
                trial.begin();
                boolean kneelsFirst = trial.kneels[p];
                for (int when = 0; kneelsFirst && when <= last; when++) {
                    if (isAllSo(k, last, p, when)) {
                        if (ways == i) {
                            return 100 * p + when;
                        }
                        ways++;
                    }
                }
            }
            return i == NONE ? ways : NONE;
        }

        private boolean isAllSo(int k, int last, int riser, int when) {
            trial.begin();
            for (int gone = 0; gone <= last; gone++) {
                if (gone == when) {
                    trial.kneels[riser] = false;
                }
                trial.pass(1);
                if (firstNotSoBehind(gone, k) != NEVER) {
                    return false;
                }
            }
            return true;
        }
    }
}
