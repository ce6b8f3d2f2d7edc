/** Queries for mail as texts; the numbered promises that it keeps stand in ../shared/DOC.md. */
public final class MailQueries {
    public static final int NONE = -1;

    private static final int MAX_TEXT = 600;
    private static final int MAX_READY = 20;
    private static final int MAX_ATOMS = 40;
    private static final int MAX_OPEN = 20;
    private static final int MAX_ROWS = 200;
    // The atoms, the signs between them, and at most one not for every four bytes of the text.
    private static final int MAX_TREE = 2 * MAX_ATOMS - 1 + MAX_TEXT / 4;

    private static final int NOT = -2;
    private static final int AND = -3;
    private static final int OR = -4;
    private static final int XOR = -5;

    private static final int NO_FIELD = 0;
    private static final int BODY = 4;
    private static final int TAG = 5;
    private static final int PATH = 7;
    private static final int ATTACHMENT = 9;
    private static final int IS = 10;
    private static final int DATE = 11;
    private static final int SIZE = 12;

    private static final int MISPLACED = 1;
    private static final int NO_WORD = 2;
    private static final int UNKNOWN_FIELD = 3;
    private static final int WRONG_TEXT = 4;
    private static final int TOO_MANY = 5;

    private final char[] ready = new char[MAX_READY];
    private final char[] hand = new char[MAX_TEXT];
    private int handLength = 0;
    private Query query = new Query();
    private final Reader reader = new Reader();
    private final Printer printer = new Printer();
    private final Rows rows = new Rows();
    private final Judge judge = new Judge();

    public MailQueries() {
    }

    public void feed(int a, int b, int c, int d, int e) {
        makeReady(0, a);
        makeReady(4, b);
        makeReady(8, c);
        makeReady(12, d);
        makeReady(16, e);
    }

    private void makeReady(int from, int fourBytes) {
        for (int i = 0; i < 4; i++) {
            int at = from + i;
            if (at >= 0 && at < ready.length) {
                ready[at] = (char) ((fourBytes >>> (24 - 8 * i)) & 255);
            }
        }
    }

    public int end(int n) {
        if (n < 0 || n > MAX_READY || handLength + n > MAX_TEXT) {
            return NONE;
        }
        System.arraycopy(ready, 0, hand, handLength, n);
        handLength += n;
        feed(0, 0, 0, 0, 0);
        return handLength;
    }

    public int read() throws IllegalArgumentException {
        boolean isWhole = reader.takesIn(hand, handLength);
        handLength = 0;
        if (!isWhole) {
            throw new IllegalArgumentException("the text has a fault");
        }
        query = reader.exchange(query);
        return query.different;
    }

    public int fault(int what) {
        switch (what) {
            case 0:
                return reader.faultKind;
            case 1:
                return reader.faultPlace;
            default:
                return NONE;
        }
    }

    public int atom(int atom, int what) {
        if (!query.has(atom)) {
            return NONE;
        }
        switch (what) {
            case 0:
                return query.field[atom];
            case 1:
                return query.phrase[atom] ? 1 : 0;
            case 2:
                return query.textLength[atom];
            case 3:
                return query.star[atom];
            case 4:
                return query.often[atom];
            default:
                return NONE;
        }
    }

    public int atomByte(int atom, int k) {
        if (!query.has(atom) || k < 0 || k >= query.textLength[atom]) {
            return NONE;
        }
        return query.byteAt(query.textFrom[atom] + k);
    }

    public int range(int atom, int what) {
        if (!query.has(atom)) {
            return 0;
        }
        switch (what) {
            case 0:
                return query.least[atom];
            case 1:
                return query.greatest[atom];
            default:
                return 0;
        }
    }

    public int tree(int k) {
        return query.entryAt(k);
    }

    public int print() {
        return printer.write(query);
    }

    public int printed(int k) {
        return printer.byteAt(k);
    }

    public int normal() {
        return rows.make(query);
    }

    public long row(int k, boolean negated) {
        return rows.bitsOf(k, negated);
    }

    public boolean ask(long atoms) {
        return judge.accepts(query, atoms);
    }

    public int ways() {
        return judge.countWays(query);
    }

    private static String nameOf(int field) {
        switch (field) {
            case 1:
                return "from";
            case 2:
                return "to";
            case 3:
                return "subject";
            case BODY:
                return "body";
            case TAG:
                return "tag";
            case 6:
                return "id";
            case PATH:
                return "path";
            case 8:
                return "type";
            case ATTACHMENT:
                return "attachment";
            case IS:
                return "is";
            case DATE:
                return "date";
            case SIZE:
                return "size";
            default:
                return "";
        }
    }

    private static boolean isSmallLetter(int b) {
        return b >= 'a' && b <= 'z';
    }

    private static boolean isDigit(int b) {
        return b >= '0' && b <= '9';
    }

    private static boolean isSpace(int b) {
        return b == ' ' || b == '\t';
    }

    private static boolean isTextByte(int b) {
        return b >= 33 && b <= 126 && b != '(' && b != ')' && b != '"' && b != ':';
    }

    private static int small(int b) {
        return b >= 'A' && b <= 'Z' ? b + ('a' - 'A') : b;
    }

    /** A stack whose size is known ahead; it can neither overflow nor be popped when empty. */
    private static final class Pile {
        private final long[] held;
        private int top = 0;

        Pile(int most) {
            held = new long[most > 0 ? most : 0];
        }

        void clear() {
            top = 0;
        }

        boolean isEmpty() {
            return top == 0;
        }

        void push(long value) {
            if (top < held.length) {
                held[top] = value;
                top++;
            }
        }

        long pop() {
            if (top <= 0) {
                return 0;
            }
            top--;
            return held[top];
        }
    }

    /** A text with its different atoms and its tree; an atom's bytes stay where they are in the text. */
    private static final class Query {
        private final char[] text = new char[MAX_TEXT];
        private int length = 0;
        private int taken = 0;
        private int different = 0;
        private final int[] field = new int[MAX_ATOMS];
        private final boolean[] phrase = new boolean[MAX_ATOMS];
        private final int[] textFrom = new int[MAX_ATOMS];
        private final int[] textLength = new int[MAX_ATOMS];
        private final int[] star = new int[MAX_ATOMS];
        private final int[] least = new int[MAX_ATOMS];
        private final int[] greatest = new int[MAX_ATOMS];
        private final int[] often = new int[MAX_ATOMS];
        private final int[] entries = new int[MAX_TREE];
        private int treeSize = 0;

        void begin(char[] bytes, int count) {
            length = Math.max(0, Math.min(count, Math.min(bytes.length, text.length)));
            System.arraycopy(bytes, 0, text, 0, length);
            taken = 0;
            different = 0;
            treeSize = 0;
        }

        boolean has(int atom) {
            return atom >= 0 && atom < different;
        }

        boolean isFull() {
            return taken >= MAX_ATOMS;
        }

        int byteAt(int at) {
            return at >= 0 && at < length ? text[at] : NONE;
        }

        int entryAt(int k) {
            return k >= 0 && k < treeSize ? entries[k] : NONE;
        }

        /** Where the byte stands first from from on and ahead of to. */
        int find(int wanted, int from, int to) {
            for (int at = from; at < to; at++) {
                if (byteAt(at) == wanted) {
                    return at;
                }
            }
            return NONE;
        }

        boolean says(int from, int to, String word) {
            if (to - from != word.length()) {
                return false;
            }
            for (int i = 0; i < word.length(); i++) {
                if (byteAt(from + i) != word.charAt(i)) {
                    return false;
                }
            }
            return true;
        }

        void insert(int at, int entry) {
            if (at < 0 || at > treeSize || treeSize >= entries.length) {
                return;
            }
            System.arraycopy(entries, at, entries, at + 1, treeSize - at);
            entries[at] = entry;
            treeSize++;
        }

        void append(int entry) {
            insert(treeSize, entry);
        }

        /** Takes an atom in; the span is that of the text, if the field has one. */
        void take(int itsField, boolean isPhrase, int from, int to, Span span) {
            int atom = alike(itsField, isPhrase, from, to);
            if (atom == NONE) {
                atom = different;
                if (atom >= MAX_ATOMS) {
                    return;
                }
                different++;
                field[atom] = itsField;
                phrase[atom] = isPhrase;
                textFrom[atom] = from;
                textLength[atom] = to - from;
                int starAt = find('*', from, to);
                star[atom] = starAt == NONE ? NONE : starAt - from;
                boolean spans = itsField == DATE || itsField == SIZE;
                least[atom] = spans ? span.least : 0;
                greatest[atom] = spans ? span.greatest : 0;
                often[atom] = 0;
            }
            often[atom]++;
            taken++;
            append(atom);
        }

        private int alike(int itsField, boolean isPhrase, int from, int to) {
            for (int atom = 0; atom < different; atom++) {
                if (field[atom] == itsField && phrase[atom] == isPhrase
                        && textLength[atom] == to - from && sameLetters(textFrom[atom], from, to - from)) {
                    return atom;
                }
            }
            return NONE;
        }

        private boolean sameLetters(int one, int other, int count) {
            for (int i = 0; i < count; i++) {
                if (small(byteAt(one + i)) != small(byteAt(other + i))) {
                    return false;
                }
            }
            return true;
        }
    }

    /** The least and the greatest that a text of date or size has. */
    private static final class Span {
        private static final int OPEN_LEAST = -2147483648;
        private static final int OPEN_GREATEST = 2147483647;
        // Below every int, so that no value is taken for it.
        private static final long BAD = -4000000000L;
        private static final int FIRST_YEAR = 1970;
        private static final int LAST_YEAR = 2999;
        private static final int LEAP_DAYS_TILL_1969 = 477;
        private static final int[] DAYS_BEFORE = {0, 31, 59, 90, 120, 151, 181, 212, 243, 273, 304, 334, 365};

        private int least = 0;
        private int greatest = 0;

        boolean fits(Query query, int from, int to, boolean isDate) {
            int dots = query.find('.', from, to);
            if (dots == NONE) {
                long both = valueOf(query, from, to, isDate);
                return keeps(both, both);
            }
            boolean openBehind = dots + 2 == to;
            if (query.byteAt(dots + 1) != '.' || dots + 2 > to || (dots == from && openBehind)) {
                return false;
            }
            long low = dots == from ? OPEN_LEAST : valueOf(query, from, dots, isDate);
            long high = openBehind ? OPEN_GREATEST : valueOf(query, dots + 2, to, isDate);
            return keeps(low, high);
        }

        private boolean keeps(long low, long high) {
            if (low == BAD || high == BAD) {
                return false;
            }
            least = (int) low;
            greatest = (int) high;
            return true;
        }

        private static long valueOf(Query query, int from, int to, boolean isDate) {
            int unit = query.byteAt(to - 1);
            int digits = isDigit(unit) ? to - from : to - 1 - from;
            long number = numberOf(query, from, digits);
            if (number == BAD) {
                return BAD;
            }
            if (!isDate) {
                boolean isUnit = isDigit(unit) || unit == 'k' || unit == 'm';
                return digits <= 7 && isUnit ? bytesOf(number, unit) : BAD;
            }
            if (isDigit(unit)) {
                return digits == 8 ? dayOf((int) number) : BAD;
            }
            return digits <= 3 && number > 0 ? daysAgo(number, unit) : BAD;
        }

        /** The number that one to eight digits make, or BAD if they are no digits. */
        private static long numberOf(Query query, int from, int digits) {
            if (digits < 1 || digits > 8 || from < 0 || from + digits > query.length) {
                return BAD;
            }
            long number = 0;
            for (int i = 0; i < digits; i++) {
                int digit = query.text[from + i] - '0';
                if (digit < 0 || digit > 9) {
                    return BAD;
                }
                number = number * 10 + digit;
            }
            return number;
        }

        private static long bytesOf(long number, int unit) {
            long bytes = unit == 'k' ? number * 1024 : unit == 'm' ? number * 1048576 : number;
            return bytes > OPEN_GREATEST ? OPEN_GREATEST : bytes;
        }

        private static long daysAgo(long number, int unit) {
            switch (unit) {
                case 'd':
                    return -number;
                case 'w':
                    return -number * 7;
                case 'm':
                    return -number * 30;
                case 'y':
                    return -number * 365;
                default:
                    return BAD;
            }
        }

        private static long dayOf(int date) {
            int year = date / 10000;
            int month = date / 100 % 100;
            int day = date % 100;
            if (year < FIRST_YEAR || year > LAST_YEAR || month < 1 || month > 12 || day < 1) {
                return BAD;
            }
            boolean isLeap = year % 4 == 0 && (year % 100 != 0 || year % 400 == 0);
            int days = DAYS_BEFORE[month] - DAYS_BEFORE[month - 1];
            if (day > (isLeap && month == 2 ? days + 1 : days)) {
                return BAD;
            }
            int before = year - 1;
            int leapDays = before / 4 - before / 100 + before / 400 - LEAP_DAYS_TILL_1969;
            if (isLeap && month > 2) {
                leapDays++;
            }
            return 365 * (year - FIRST_YEAR) + leapDays + DAYS_BEFORE[month - 1] + day - 1;
        }
    }

    /**
     * Reads a text word by word into the atoms and tree of a query of its own, so that a fault leaves the
     * one in use alone. The signs stand ahead of what they join, so a sign is put in where its first
     * operand begins: that place is held for each ( that is open, and for each of or, xor and and.
     */
    private static final class Reader {
        private Query query = new Query();
        private final Span span = new Span();
        private int faultKind = 0;
        private int faultPlace = NONE;
        private boolean operandDue = true;
        private int open = 0;
        private final int[] orFrom = new int[MAX_OPEN + 1];
        private final int[] xorFrom = new int[MAX_OPEN + 1];
        private final int[] andFrom = new int[MAX_OPEN + 1];

        /** What was read, for a query that is no longer in use: the next text is read into that one. */
        Query exchange(Query old) {
            Query filled = query;
            query = old;
            return filled;
        }

        boolean takesIn(char[] bytes, int count) {
            query.begin(bytes, count);
            faultKind = 0;
            faultPlace = NONE;
            operandDue = true;
            open = 0;
            beginAny();
            int at = pastSpaces(0);
            if (at >= query.length) {
                return true;
            }
            for (int words = 0; words < MAX_TEXT && at != NONE && at < query.length; words++) {
                at = takeWord(at);
                if (at != NONE) {
                    at = pastSpaces(at);
                }
            }
            if (at != NONE && (operandDue || open > 0)) {
                at = fail(MISPLACED, query.length);
            }
            return at != NONE;
        }

        private int fail(int kind, int place) {
            faultKind = kind;
            faultPlace = place;
            return NONE;
        }

        /** Takes the word at a place: where it ends, or NONE behind a fault. */
        private int takeWord(int at) {
            int b = query.byteAt(at);
            if (b == '(') {
                return takeOpening(at);
            }
            if (b == ')') {
                return takeClosing(at);
            }
            if (b != '"' && !isTextByte(b)) {
                return fail(NO_WORD, at);
            }
            int letters = pastLetters(at);
            if (letters > at && query.byteAt(letters) == ':') {
                return takeAtom(fieldOf(at, letters), at, letters + 1);
            }
            int to = pastTextBytes(at);
            int sign = signOf(at, to);
            return sign == NONE ? takeAtom(NO_FIELD, at, at) : takeSign(sign, at, to);
        }

        private int takeOpening(int at) {
            if (open >= MAX_OPEN) {
                return fail(TOO_MANY, at);
            }
            beginOperand();
            open++;
            beginAny();
            return at + 1;
        }

        private int takeClosing(int at) {
            if (operandDue || open <= 0) {
                return fail(MISPLACED, at);
            }
            open--;
            return at + 1;
        }

        private int takeSign(int sign, int at, int to) {
            if (sign == NOT) {
                beginOperand();
                query.append(NOT);
                return to;
            }
            if (operandDue) {
                return fail(MISPLACED, at);
            }
            joinBy(sign);
            return to;
        }

        private int takeAtom(int field, int at, int textAt) {
            if (field != NO_FIELD && !isBegun(field, at, textAt)) {
                return NONE;
            }
            boolean isPhrase = query.byteAt(textAt) == '"';
            int from = isPhrase ? textAt + 1 : textAt;
            int to = isPhrase ? query.find('"', from, query.length) : pastTextBytes(from);
            if (to == NONE || to == from) {
                return fail(NO_WORD, textAt);
            }
            if (!fieldHas(field, isPhrase, from, to)) {
                return fail(WRONG_TEXT, textAt);
            }
            // Behind the others, as without a field all of them are at one place.
            if (query.isFull()) {
                return fail(TOO_MANY, at);
            }
            beginOperand();
            query.take(field, isPhrase, from, to, span);
            operandDue = false;
            return isPhrase ? to + 1 : to;
        }

        /** Whether a field may stand there and a text begins just behind its : . */
        private boolean isBegun(int field, int at, int textAt) {
            int b = query.byteAt(textAt);
            if (field == NONE) {
                fail(UNKNOWN_FIELD, at);
            } else if (query.isFull()) {
                fail(TOO_MANY, at);
            } else if (b != '"' && !isTextByte(b)) {
                fail(MISPLACED, textAt);
            }
            return faultKind == 0;
        }

        private void beginAny() {
            if (open >= 0 && open <= MAX_OPEN) {
                orFrom[open] = query.treeSize;
                beginEither();
            }
        }

        private void beginEither() {
            if (open >= 0 && open <= MAX_OPEN) {
                xorFrom[open] = query.treeSize;
                beginAll();
            }
        }

        private void beginAll() {
            if (open >= 0 && open <= MAX_OPEN) {
                andFrom[open] = query.treeSize;
            }
        }

        private void beginOperand() {
            if (!operandDue) {
                joinBy(AND);
            }
        }

        private void joinBy(int sign) {
            operandDue = true;
            if (open < 0 || open > MAX_OPEN) {
                return;
            }
            if (sign == OR) {
                query.insert(orFrom[open], OR);
                beginEither();
            } else if (sign == XOR) {
                query.insert(xorFrom[open], XOR);
                beginAll();
            } else {
                query.insert(andFrom[open], AND);
            }
        }

        private boolean fieldHas(int field, boolean isPhrase, int from, int to) {
            switch (field) {
                case TAG:
                    return !isPhrase && isTag(from, to);
                case IS:
                    return !isPhrase && isState(from, to);
                case DATE:
                    return !isPhrase && span.fits(query, from, to, true);
                case SIZE:
                    return !isPhrase && span.fits(query, from, to, false);
                default:
                    return starFits(field, isPhrase, from, to);
            }
        }

        private boolean isTag(int from, int to) {
            for (int at = from; at < to; at++) {
                int b = query.byteAt(at);
                if (!isSmallLetter(b) && !isDigit(b) && b != '-') {
                    return false;
                }
            }
            return to - from <= 16;
        }

        private boolean isState(int from, int to) {
            return query.says(from, to, "unread") || query.says(from, to, "flagged")
                    || query.says(from, to, "replied") || query.says(from, to, "encrypted");
        }

        private boolean starFits(int field, boolean isPhrase, int from, int to) {
            int star = query.find('*', from, to);
            if (star == NONE) {
                return true;
            }
            boolean hasStars = field <= BODY || field == PATH || field == ATTACHMENT;
            return hasStars && !isPhrase && to - from > 1 && query.find('*', star + 1, to) == NONE;
        }

        private int fieldOf(int from, int to) {
            for (int field = NO_FIELD + 1; field <= SIZE; field++) {
                if (query.says(from, to, nameOf(field))) {
                    return field;
                }
            }
            return NONE;
        }

        private int signOf(int from, int to) {
            if (query.says(from, to, "and")) {
                return AND;
            }
            if (query.says(from, to, "or")) {
                return OR;
            }
            if (query.says(from, to, "xor")) {
                return XOR;
            }
            return query.says(from, to, "not") ? NOT : NONE;
        }

        private int pastSpaces(int from) {
            int at = from;
            while (at < query.length && isSpace(query.byteAt(at))) {
                at++;
            }
            return at;
        }

        private int pastLetters(int from) {
            int at = from;
            while (at < query.length && isSmallLetter(query.byteAt(at))) {
                at++;
            }
            return at;
        }

        private int pastTextBytes(int from) {
            int at = from;
            while (at < query.length && isTextByte(query.byteAt(at))) {
                at++;
            }
            return at;
        }
    }

    /**
     * Writes a query. What is still to be written stands on a pile: an operand as how tightly it must
     * bind (0 or more), a sign as itself, and a ) as CLOSING.
     */
    private static final class Printer {
        private static final int CLOSING = -1;
        private static final int OPERAND_OF_NOT = 3;

        // Each byte of the text may get one space more.
        private final char[] bytes = new char[2 * MAX_TEXT];
        private int length = 0;
        private boolean wordBefore = false;
        private final Pile due = new Pile(4 * MAX_ATOMS);

        int byteAt(int k) {
            return k >= 0 && k < length ? bytes[k] : NONE;
        }

        int write(Query query) {
            length = 0;
            wordBefore = false;
            due.clear();
            int entry = 0;
            if (query.treeSize > 0) {
                due.push(0);
            }
            for (int steps = 0; steps < 4 * MAX_TREE && !due.isEmpty(); steps++) {
                int next = (int) due.pop();
                if (next >= 0) {
                    writeOperand(query, query.entryAt(entry), next);
                    entry++;
                } else if (next == CLOSING) {
                    put(')');
                } else {
                    writeSign(next);
                }
            }
            return length;
        }

        private void writeOperand(Query query, int entry, int tightness) {
            if (entry >= 0) {
                writeAtom(query, entry);
            } else if (entry == NOT) {
                writeWord("not");
                due.push(OPERAND_OF_NOT);
            } else {
                int own = tightnessOf(entry);
                if (own < tightness) {
                    writeWord("(");
                    wordBefore = false;
                    due.push(CLOSING);
                }
                // The second operand must bind tighter, for signs alike join from the left.
                due.push(own + 1);
                due.push(entry);
                due.push(own);
            }
        }

        private static int tightnessOf(int sign) {
            return sign == OR ? 0 : sign == XOR ? 1 : 2;
        }

        private void writeSign(int sign) {
            if (sign == OR) {
                writeWord("or");
            } else if (sign == XOR) {
                writeWord("xor");
            }
        }

        private void writeAtom(Query query, int atom) {
            if (!query.has(atom)) {
                return;
            }
            writeWord(nameOf(query.field[atom]));
            if (query.field[atom] != NO_FIELD) {
                put(':');
            }
            if (query.phrase[atom]) {
                put('"');
            }
            for (int i = 0; i < query.textLength[atom]; i++) {
                put(query.byteAt(query.textFrom[atom] + i));
            }
            if (query.phrase[atom]) {
                put('"');
            }
        }

        private void writeWord(String word) {
            if (wordBefore) {
                put(' ');
            }
            wordBefore = true;
            for (int i = 0; i < word.length(); i++) {
                put(word.charAt(i));
            }
        }

        private void put(int b) {
            if (length < bytes.length) {
                bytes[length] = (char) b;
                length++;
            }
        }
    }

    /** Answers for which messages a query is true, 64 of them at once: a bit of each value is one. */
    private static final class Judge {
        private static final int MOST_ATOMS = 12;
        private static final int ATOMS_IN_A_LONG = 6;
        private static final long[] PATTERNS = {
            0xAAAAAAAAAAAAAAAAL, 0xCCCCCCCCCCCCCCCCL, 0xF0F0F0F0F0F0F0F0L,
            0xFF00FF00FF00FF00L, 0xFFFF0000FFFF0000L, 0xFFFFFFFF00000000L
        };

        private final long[] values = new long[MAX_ATOMS];
        private final Pile pile = new Pile(MAX_ATOMS);

        boolean accepts(Query query, long atoms) {
            for (int atom = 0; atom < values.length; atom++) {
                values[atom] = -((atoms >>> atom) & 1L);
            }
            return (valueOf(query) & 1L) != 0;
        }

        int countWays(Query query) {
            int atoms = query.different;
            if (atoms > MOST_ATOMS) {
                return NONE;
            }
            int blocks = atoms > ATOMS_IN_A_LONG ? 1 << (atoms - ATOMS_IN_A_LONG) : 1;
            long ways = atoms >= ATOMS_IN_A_LONG ? -1L : (1L << (1 << atoms)) - 1;
            int count = 0;
            for (int block = 0; block < blocks; block++) {
                setValues(atoms, block);
                count += Long.bitCount(valueOf(query) & ways);
            }
            return count;
        }

        private void setValues(int atoms, int block) {
            for (int atom = 0; atom < atoms && atom < values.length; atom++) {
                values[atom] = atom < PATTERNS.length
                        ? PATTERNS[atom]
                        : -((block >>> (atom - PATTERNS.length)) & 1L);
            }
        }

        /** From the tree's end to its beginning, so that each sign finds its operands on the pile. */
        private long valueOf(Query query) {
            if (query.treeSize == 0) {
                return -1L;
            }
            pile.clear();
            for (int k = query.treeSize - 1; k >= 0; k--) {
                int entry = query.entryAt(k);
                if (entry >= 0) {
                    pile.push(entry < values.length ? values[entry] : 0);
                } else if (entry == NOT) {
                    pile.push(~pile.pop());
                } else {
                    long first = pile.pop();
                    pile.push(joined(entry, first, pile.pop()));
                }
            }
            return pile.pop();
        }

        private static long joined(int sign, long first, long second) {
            if (sign == OR) {
                return first | second;
            }
            return sign == XOR ? first ^ second : first & second;
        }
    }

    /**
     * Makes a query NORMAL. From the tree's end to its beginning, each part gets a set of rows in one
     * pool, set behind set: first the rows of the part as it is, then those of not it, each only where
     * the signs above ask for them.
     */
    private static final class Rows {
        private static final int AS_IS = 1;
        private static final int TURNED = 2;
        private static final int BOTH = 3;
        // Parts that wait have 40 atoms in all, and one of n atoms at most 2^n and at most 400 rows:
        // no more than 1,778 together; and what is being made of two of them, at most 600.
        private static final int POOL = 2400;

        private final long[] plain = new long[POOL];
        private final long[] negated = new long[POOL];
        private int top = 0;
        private final int[] setFrom = new int[MAX_ATOMS + 1];
        private final int[] setMiddle = new int[MAX_ATOMS + 1];
        private int sets = 0;
        private final int[] asked = new int[MAX_TREE];
        private final Pile pile = new Pile(MAX_ATOMS + 1);
        private final long[] keptPlain = new long[MAX_ROWS];
        private final long[] keptNegated = new long[MAX_ROWS];
        private int kept = 0;

        long bitsOf(int k, boolean ofNegated) {
            if (k < 0 || k >= kept) {
                return 0;
            }
            return ofNegated ? keptNegated[k] : keptPlain[k];
        }

        /** How many rows; NONE if they are too many, and then the rows made before stay. */
        int make(Query query) {
            top = 0;
            sets = 0;
            if (query.treeSize == 0) {
                put(0, 0, 0);
                return keepRows(top);
            }
            noteWhatIsAsked(query);
            for (int k = Math.min(query.treeSize, asked.length) - 1; k >= 0; k--) {
                if (!makeSet(query.entryAt(k), asked[k])) {
                    return NONE;
                }
            }
            return keepRows(sideTo(0, AS_IS));
        }

        private int keepRows(int count) {
            kept = Math.max(0, Math.min(count, MAX_ROWS));
            System.arraycopy(plain, 0, keptPlain, 0, kept);
            System.arraycopy(negated, 0, keptNegated, 0, kept);
            return kept;
        }

        private void noteWhatIsAsked(Query query) {
            pile.clear();
            pile.push(AS_IS);
            for (int k = 0; k < query.treeSize && k < asked.length; k++) {
                int sides = (int) pile.pop();
                asked[k] = sides;
                int entry = query.entryAt(k);
                if (entry == NOT) {
                    pile.push(sides == BOTH ? BOTH : AS_IS + TURNED - sides);
                } else if (entry < 0) {
                    int below = entry == XOR ? BOTH : sides;
                    pile.push(below);
                    pile.push(below);
                }
            }
        }

        private boolean makeSet(int entry, int sides) {
            int base = top;
            if (entry >= 0) {
                boolean done = (sides & AS_IS) == 0 || put(base, 1L << entry, 0);
                int middle = top;
                done = done && ((sides & TURNED) == 0 || put(middle, 0, 1L << entry));
                return done && replaceSets(0, base, middle);
            }
            if (entry == NOT) {
                boolean done = putSide(base, sets - 1, TURNED);
                int middle = top;
                return done && putSide(middle, sets - 1, AS_IS) && replaceSets(1, base, middle);
            }
            boolean done = (sides & AS_IS) == 0 || joinAsIs(entry);
            int middle = top;
            done = done && ((sides & TURNED) == 0 || joinTurned(entry));
            return done && replaceSets(2, base, middle);
        }

        private boolean joinAsIs(int sign) {
            if (sign == XOR) {
                return putEither(AS_IS, TURNED, TURNED, AS_IS);
            }
            return sign == OR ? putAny(AS_IS) : putPairs(AS_IS, AS_IS);
        }

        private boolean joinTurned(int sign) {
            if (sign == XOR) {
                return putEither(AS_IS, AS_IS, TURNED, TURNED);
            }
            return sign == OR ? putPairs(TURNED, TURNED) : putAny(TURNED);
        }

        /** The rows of (x and y) or (x and y), with the sides of x and y told for each. */
        private boolean putEither(int x1, int y1, int x2, int y2) {
            int base = top;
            if (!putPairs(x1, y1) || !putPairs(x2, y2) || top - base > MAX_ROWS) {
                return false;
            }
            leaveOut(base);
            return true;
        }

        /** The rows of x or y. */
        private boolean putAny(int side) {
            int base = top;
            if (!putSide(base, sets - 1, side) || !putSide(base, sets - 2, side)) {
                return false;
            }
            leaveOut(base);
            return true;
        }

        /** The rows of x and y. */
        private boolean putPairs(int xSide, int ySide) {
            int base = top;
            int xTo = sideTo(sets - 1, xSide);
            int yFrom = sideFrom(sets - 2, ySide);
            int yTo = sideTo(sets - 2, ySide);
            for (int x = sideFrom(sets - 1, xSide); x < xTo; x++) {
                for (int y = yFrom; y < yTo; y++) {
                    long asTheyAre = plain[x] | plain[y];
                    long not = negated[x] | negated[y];
                    if ((asTheyAre & not) == 0 && !put(base, asTheyAre, not)) {
                        return false;
                    }
                }
            }
            leaveOut(base);
            return true;
        }

        private boolean putSide(int base, int set, int side) {
            int to = sideTo(set, side);
            for (int row = sideFrom(set, side); row < to; row++) {
                if (!put(base, plain[row], negated[row])) {
                    return false;
                }
            }
            return true;
        }

        /** One row more for those that began at base; false if they are too many. */
        private boolean put(int base, long asTheyAre, long not) {
            if (top - base >= MAX_ROWS || top < 0 || top >= POOL) {
                return false;
            }
            plain[top] = asTheyAre;
            negated[top] = not;
            top++;
            return true;
        }

        /** Of the rows from base on, those that have all that is in another one go. */
        private void leaveOut(int base) {
            int to = top;
            int stay = base;
            for (int row = base; row < to; row++) {
                if (!hasOneOf(row, base, stay, true) && !hasOneOf(row, row + 1, to, false)) {
                    plain[stay] = plain[row];
                    negated[stay] = negated[row];
                    stay++;
                }
            }
            top = stay;
        }

        private boolean hasOneOf(int row, int from, int to, boolean alikeToo) {
            long lacksPlain = ~plain[row];
            long lacksNegated = ~negated[row];
            for (int other = from; other < to; other++) {
                if ((plain[other] & lacksPlain) == 0 && (negated[other] & lacksNegated) == 0
                        && (alikeToo || plain[other] != plain[row] || negated[other] != negated[row])) {
                    return true;
                }
            }
            return false;
        }

        private int sideFrom(int set, int side) {
            if (set < 0 || set >= sets) {
                return 0;
            }
            return side == AS_IS ? setFrom[set] : setMiddle[set];
        }

        private int sideTo(int set, int side) {
            if (set < 0 || set >= sets) {
                return 0;
            }
            // The sets stand without a gap, and setFrom[sets] is where the last one ends.
            return side == AS_IS ? setMiddle[set] : setFrom[set + 1];
        }

        /** The rows from base on become a set in place of the last ones. */
        private boolean replaceSets(int gone, int base, int middle) {
            int set = sets - gone;
            if (set < 0 || set >= MAX_ATOMS || top < base) {
                return false;
            }
            int from = gone > 0 ? setFrom[set] : base;
            System.arraycopy(plain, base, plain, from, top - base);
            System.arraycopy(negated, base, negated, from, top - base);
            setFrom[set] = from;
            setMiddle[set] = from + middle - base;
            top = from + top - base;
            sets = set + 1;
            setFrom[sets] = top;
            return true;
        }
    }
}
