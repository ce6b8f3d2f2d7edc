import java.time.DateTimeException;
import java.time.LocalDate;

/** The document's sentences under 'Terms' up to FAULTS, each with the boundary cases that it names. */
public final class TermsTest {
    private static final int NONE = MailQueries.NONE;
    private static final int OPEN_LEAST = Integer.MIN_VALUE;
    private static final int OPEN_GREATEST = Integer.MAX_VALUE;
    private static final String[] FIELDS = {"from", "to", "subject", "body", "tag", "id", "path", "type",
        "attachment", "is", "date", "size"};

    public static void main(String[] args) {
        spaces();
        signs();
        operators();
        fieldLetters();
        colonJustBehind();
        phrases();
        textBytes();
        bytesBehindAField();
        operatorsAsTexts();
        fields();
        tags();
        states();
        spanForms();
        dateDays();
        dateNumbers();
        sizes();
        noPhrases();
        anyTexts();
        stars();
        queryOfNothing();
        queryParts();
        atMost40Atoms();
        atMost20Open();
        Calls.finish();
    }

    private static boolean isTextByte(int b) {
        return b >= 33 && b <= 126 && "()\":".indexOf(b) < 0;
    }

    private static String text(int b) {
        return String.valueOf((char) b);
    }

    private static void spaces() {
        Calls.sentence("WORDS: spaces (32, 9) stand between where they must");
        Calls.trees("a b", "and 0 1");
        Calls.trees("a\tb", "and 0 1");
        Calls.trees("\t a \t or\t\tb \t", "or 0 1");
        Calls.trees("ab", "0");
        Calls.trees("aorb", "0");
        Calls.trees("nota", "0");
        Calls.trees("a\"b\"c", "and and 0 1 2");
        Calls.trees("\"a\"\"b\"", "and 0 1");
        Calls.trees("\"a\"from:b\"c\"", "and and 0 1 2");
        Calls.trees("a(b)c", "and and 0 1 2");
        Calls.trees("(a)or(b)xor(c)and(d)", "or 0 xor 1 and 2 3");
        Calls.trees("a or\"b\"xor not\"c\"", "or 0 xor 1 not 2");
        Calls.trees("not(not(a))", "not not 0");
        for (int b : new int[] {0, 8, 10, 11, 12, 13, 31, 127, 133, 160, 255}) {
            Calls.faulty("a" + text(b) + "or b", 2, 1);
        }
    }

    private static void signs() {
        Calls.sentence("WORDS: signs ( )");
        Calls.trees("(a)", "0");
        Calls.trees("( a )", "0");
        Calls.reads("[a] {b} <c>", 3);
    }

    private static void operators() {
        Calls.sentence("WORDS: operators and, or, xor, not (small letters)");
        Calls.trees("a and b", "and 0 1");
        Calls.trees("a or b", "or 0 1");
        Calls.trees("a xor b", "xor 0 1");
        Calls.trees("not b", "not 0");
        Calls.reads("And aNd anD AND", 1);
        Calls.reads("Or oR OR", 1);
        Calls.reads("Xor xOr xoR XOR", 1);
        Calls.reads("Not nOt noT NOT", 1);
        Calls.reads("an ands nand o ors nor xo xors no nots knot", 11);
        Calls.reads("and- or. -xor not'", 4);
    }

    private static void fieldLetters() {
        Calls.sentence("ATOMS: perhaps a FIELD (letters a .. z, at least one)");
        for (int b = 0; b < 256; b++) {
            String word = text(b) + ":x";
            if (b >= 'a' && b <= 'z') {
                Calls.faulty(word, 3, 0);
                Calls.faulty("from" + word, 3, 0);
            } else if (b == '*') {
                Calls.faulty(word, 4, 0);
            } else if (isTextByte(b)) {
                Calls.faulty(word, 2, 1);
                Calls.faulty("from" + word, 2, 5);
                Calls.faulty(text(b) + "from:x", 2, 5);
            }
        }
        Calls.faulty(":x", 2, 0);
        Calls.faulty("a :x", 2, 2);
        Calls.faulty("(:x)", 2, 1);
        Calls.faulty("From:x", 2, 4);
        Calls.faulty("froM:x", 2, 4);
    }

    private static void colonJustBehind() {
        Calls.sentence("ATOMS: and a : just behind; then a TEXT");
        Calls.faulty("from :a", 2, 5);
        Calls.faulty("from\t:a", 2, 5);
        Calls.faulty("from: a", 1, 5);
        Calls.faulty("from:\t\"a\"", 1, 5);
        Calls.reads("from a", 2);
    }

    private static void phrases() {
        Calls.sentence("a PHRASE, from \" to the next \", at least one byte between");
        for (int b = 0; b < 256; b++) {
            if (b != '"' && b != '*') {
                MailQueries x = Calls.of("\"" + text(b) + "\"");
                Calls.due("a phrase of byte " + b, x.atom(0, 1), 1);
                Calls.due("the length of the phrase of byte " + b, x.atom(0, 2), 1);
                Calls.due("the byte of the phrase of byte " + b, x.atomByte(0, 0), b);
                Calls.reads("from:\"" + text(b) + "\"", 1);
            }
        }
        Calls.faulty("\"\"", 2, 0);
        Calls.faulty("from:\"\"", 2, 5);
        Calls.faulty("\"\"\"a\"", 2, 0);
        Calls.faulty("\"a\"\"", 2, 3);
        MailQueries x = Calls.of("\"a (or) b\"\"\tfrom:c\"");
        Calls.due("the first phrase", Calls.atomText(x, 0), "a (or) b");
        Calls.due("the second phrase", Calls.atomText(x, 1), "\tfrom:c");
        Calls.due("no third atom", x.atom(2, 0), NONE);
        String longest = "x".repeat(598);
        MailQueries y = Calls.of("\"" + longest + "\"");
        Calls.due("the longest phrase", y.atom(0, 2), 598);
    }

    private static void textBytes() {
        Calls.sentence("or bytes 33 .. 126 but ( ) \" and :, at least one");
        for (int b = 0; b < 256; b++) {
            if (b == ' ' || b == '\t') {
                Calls.reads(text(b), 0);
                Calls.reads("a" + text(b) + "c", 2);
            } else if (b == '*') {
                Calls.faulty(text(b), 4, 0);
                Calls.reads("a" + text(b) + "c", 1);
            } else if (isTextByte(b)) {
                MailQueries x = Calls.of(text(b));
                Calls.due("the byte " + b, x.atomByte(0, 0), b);
                Calls.due("no phrase of the byte " + b, x.atom(0, 1), 0);
                MailQueries y = Calls.of("a" + text(b) + "c");
                Calls.due("the byte " + b + " between others", y.atom(0, 2), 3);
            } else if ("()\":".indexOf(b) < 0) {
                Calls.faulty(text(b), 2, 0);
                Calls.faulty("a" + text(b) + "c", 2, 1);
            }
        }
        Calls.faulty("(", 1, 1);
        Calls.faulty("a(c", 1, 3);
        Calls.faulty(")", 1, 0);
        Calls.faulty("a)c", 1, 1);
        Calls.faulty("\"", 2, 0);
        Calls.faulty("a\"c", 2, 1);
        Calls.faulty(":", 2, 0);
        Calls.faulty("a:c", 3, 0);
    }

    private static void bytesBehindAField() {
        Calls.sentence("a FIELD and a : just behind; then a TEXT of at least one byte");
        Calls.faulty("from:", 1, 5);
        for (int b = 0; b < 256; b++) {
            if (b == '*') {
                Calls.faulty("from:*", 4, 5);
            } else if (b == '"') {
                Calls.faulty("from:\"", 2, 5);
            } else if (isTextByte(b)) {
                MailQueries x = Calls.of("from:" + text(b));
                Calls.due("the field with byte " + b, x.atom(0, 0), 1);
                Calls.due("the text with byte " + b, x.atomByte(0, 0), b);
            } else {
                Calls.faulty("from:" + text(b), 1, 5);
            }
        }
    }

    private static void operatorsAsTexts() {
        Calls.sentence("(which is no operator, if there is no FIELD)");
        String[] names = {"and", "or", "xor", "not"};
        for (String name : names) {
            MailQueries x = Calls.of("subject:" + name);
            Calls.due("the text of subject:" + name, Calls.atomText(x, 0), name);
            Calls.reads("\"" + name + "\"", 1);
            Calls.faulty(name, 1, name.equals("not") ? 3 : 0);
            Calls.faulty(name + ":x", 3, 0);
        }
    }

    private static void fields() {
        Calls.sentence("FIELDS: 0 none, 1 from, 2 to, .. 12 size");
        String[] texts = {"a", "a", "a", "a", "a", "a", "a", "a", "a", "unread", "1d", "1"};
        Calls.due("a text without a field", Calls.of("from").atom(0, 0), 0);
        for (int i = 0; i < FIELDS.length; i++) {
            String name = FIELDS[i];
            Calls.due("the field " + name, Calls.of(name + ":" + texts[i]).atom(0, 0), i + 1);
            Calls.faulty(name + "s:" + texts[i], 3, 0);
            Calls.faulty("x" + name + ":" + texts[i], 3, 0);
            Calls.faulty(name.substring(1) + ":" + texts[i], 3, 0);
            Calls.faulty(name.substring(0, name.length() - 1) + ":" + texts[i], 3, 0);
            Calls.faulty(name.toUpperCase(java.util.Locale.ROOT) + ":" + texts[i], 2, name.length());
        }
        Calls.faulty("none:a", 3, 0);
        Calls.faulty("cc:a", 3, 0);
    }

    private static void tags() {
        Calls.sentence("The TEXT of tag: 1 to 16 letters a .. z, digits, -");
        for (int b = 33; b < 127; b++) {
            boolean fits = b >= 'a' && b <= 'z' || b >= '0' && b <= '9' || b == '-';
            if (fits) {
                Calls.reads("tag:" + text(b), 1);
                Calls.reads("tag:a" + text(b) + "c", 1);
            } else if (isTextByte(b)) {
                Calls.faulty("tag:" + text(b), 4, 4);
                Calls.faulty("tag:ab" + text(b), 4, 4);
            }
        }
        Calls.faulty("tag:", 1, 4);
        for (int length = 1; length <= 16; length++) {
            Calls.reads("tag:" + "z0-a".repeat(4).substring(0, length), 1);
        }
        Calls.faulty("tag:" + "a".repeat(17), 4, 4);
        Calls.faulty("tag:" + "a".repeat(590), 4, 4);
    }

    private static void states() {
        Calls.sentence("of is: unread, flagged, replied, encrypted");
        String[] states = {"unread", "flagged", "replied", "encrypted"};
        for (String state : states) {
            MailQueries x = Calls.of("is:" + state);
            Calls.due("the field of is:" + state, x.atom(0, 0), 10);
            Calls.due("the text of is:" + state, Calls.atomText(x, 0), state);
            Calls.faulty("is:" + state + "s", 4, 3);
            Calls.faulty("is:" + state.substring(1), 4, 3);
            Calls.faulty("is:" + state.substring(0, state.length() - 1), 4, 3);
            Calls.faulty("is:" + state.substring(0, state.length() - 1) + "*", 4, 3);
            Calls.faulty("is:" + Character.toUpperCase(state.charAt(0)) + state.substring(1), 4, 3);
        }
        Calls.faulty("is:read", 4, 3);
        Calls.faulty("is:", 1, 3);
    }

    private static void spanForms() {
        Calls.sentence("of date and size: A..B, A.., ..B or A");
        Calls.ranges("date:19700103..19700105", 2, 4);
        Calls.ranges("date:19700103..", 2, OPEN_GREATEST);
        Calls.ranges("date:..19700103", OPEN_LEAST, 2);
        Calls.ranges("date:19700103", 2, 2);
        Calls.ranges("date:3d..1d", -3, -1);
        Calls.ranges("date:20200101..7d", 18262, -7);
        Calls.ranges("date:7d..20200101", -7, 18262);
        Calls.ranges("size:3..5", 3, 5);
        Calls.ranges("size:3..", 3, OPEN_GREATEST);
        Calls.ranges("size:..3", OPEN_LEAST, 3);
        Calls.ranges("size:3", 3, 3);
        String[] forms = {"..", ".", "A.", ".A", "A.A", "A...A", "A...", "...A", "A....A", "..A..", "A..A..", "A..A..A",
            "..A..A", "A-A", "A,A", "A..,A", "x..A", "A..x", "A..*", "*", "A*"};
        for (String form : forms) {
            Calls.faulty("date:" + form.replace("A", "1d"), 4, 5);
            Calls.faulty("date:" + form.replace("A", "20200101"), 4, 5);
            Calls.faulty("size:" + form.replace("A", "1"), 4, 5);
            Calls.faulty("size:" + form.replace("A", "1k"), 4, 5);
        }
        Calls.faulty("date:", 1, 5);
        Calls.faulty("size:", 1, 5);
    }

    private static void dateDays() {
        Calls.sentence("in date 8 digits, year 1970 .. 2999, month, day (that are there)");
        int[] years = {0, 1, 1582, 1899, 1969, 1970, 1971, 1972, 1999, 2000, 2001, 2004, 2023, 2024, 2096, 2100, 2104,
            2200, 2300, 2400, 2500, 2900, 2996, 2999, 3000, 3001, 9999};
        for (int year : years) {
            for (int month = 0; month <= 14; month++) {
                oneMonth(year, month);
            }
            oneMonth(year, 99);
        }
        String[] wrong = {"2020010", "202001011", "2020-01-01", "2020010a", "a0200101", "+2020010", "-2020010", "0", "2020",
            "0020200101"};
        for (String text : wrong) {
            Calls.faulty("date:" + text, 4, 5);
            Calls.faulty("date:.." + text, 4, 5);
            Calls.faulty("date:" + text + "..", 4, 5);
        }
    }

    private static void oneMonth(int year, int month) {
        MailQueries x = new MailQueries();
        for (int day = 0; day <= 33; day++) {
            String text = String.format("date:%04d%02d%02d", year, month, day);
            int due = Calls.THROWN;
            try {
                int days = (int) LocalDate.of(year, month, day).toEpochDay();
                if (year >= 1970 && year <= 2999) {
                    due = days;
                }
            } catch (DateTimeException e) {
                due = Calls.THROWN;
            }
            int atoms = Calls.read(x, text);
            Calls.due("read() of " + text, atoms, due == Calls.THROWN ? due : 1);
            if (due == Calls.THROWN) {
                Calls.due("fault(0) of " + text, x.fault(0), 4);
                Calls.due("fault(1) of " + text, x.fault(1), 5);
            } else {
                Calls.due("range(0, 0) of " + text, x.range(0, 0), due);
                Calls.due("range(0, 1) of " + text, x.range(0, 1), due);
            }
        }
    }

    private static void dateNumbers() {
        Calls.sentence("or a number 1 .. 999 (1 to 3 digits) and d, w, m, y");
        String units = "dwmy";
        int[] days = {1, 7, 30, 365};
        for (int u = 0; u < days.length; u++) {
            String unit = units.substring(u, u + 1);
            for (int number : new int[] {1, 2, 9, 10, 99, 100, 998, 999}) {
                Calls.ranges("date:" + number + unit, -number * days[u], -number * days[u]);
            }
            Calls.ranges("date:01" + unit, -days[u], -days[u]);
            Calls.ranges("date:001" + unit, -days[u], -days[u]);
            for (String number : new String[] {"0", "00", "000", "1000", "0001", "0999", "", "-1", "+1", "1.5"}) {
                Calls.faulty("date:" + number + unit, 4, 5);
            }
            Calls.faulty("date:1" + unit + unit, 4, 5);
            Calls.faulty("date:" + unit + "1", 4, 5);
            Calls.faulty("date:20200101" + unit, 4, 5);
        }
        Calls.faulty("date:1", 4, 5);
        Calls.faulty("date:999", 4, 5);
        for (int b = 33; b < 127; b++) {
            if (isTextByte(b) && units.indexOf(b) < 0) {
                Calls.faulty("date:12" + text(b), 4, 5);
            }
        }
    }

    private static void sizes() {
        Calls.sentence("in size 1 to 7 digits and perhaps k or m");
        for (int length = 1; length <= 7; length++) {
            int number = Integer.parseInt("9".repeat(length));
            Calls.ranges("size:" + number, number, number);
            Calls.reads("size:" + number + "k", 1);
            Calls.reads("size:" + number + "m", 1);
            Calls.ranges("size:" + "0".repeat(length), 0, 0);
            Calls.ranges("size:" + "0".repeat(length) + "m", 0, 0);
        }
        Calls.ranges("size:0000001", 1, 1);
        String[] wrong = {"12345678", "00000001", "12345678k", "123456789", "99999999m", "k", "m", "1kk", "1mk", "k1", "1k1",
            "-1", "+1", "1.5k", "0x1"};
        for (String text : wrong) {
            Calls.faulty("size:" + text, 4, 5);
            Calls.faulty("size:.." + text, 4, 5);
            Calls.faulty("size:" + text + "..", 4, 5);
        }
        for (int b = 33; b < 127; b++) {
            boolean fits = b >= '0' && b <= '9' || b == 'k' || b == 'm';
            if (isTextByte(b) && !fits) {
                Calls.faulty("size:12" + text(b), 4, 5);
                Calls.faulty("size:1" + text(b) + "2", 4, 5);
            }
        }
    }

    private static void noPhrases() {
        Calls.sentence("no PHRASE for these four");
        Calls.faulty("tag:\"a\"", 4, 4);
        Calls.faulty("is:\"unread\"", 4, 3);
        Calls.faulty("date:\"20200101\"", 4, 5);
        Calls.faulty("date:\"1d\"", 4, 5);
        Calls.faulty("size:\"1\"", 4, 5);
    }

    private static void anyTexts() {
        Calls.sentence("Others: any TEXT");
        for (String field : new String[] {"from", "to", "subject", "body", "id", "path", "type", "attachment"}) {
            Calls.reads(field + ":\"( x or : )\" " + field + ":<a@b>/[c]=d " + field + ":19700101..1d", 3);
            Calls.reads(field + ":" + "x".repeat(590 - field.length()), 1);
        }
    }

    private static void stars() {
        Calls.sentence("A * may stand in a TEXT that is no PHRASE, of FIELDS 0 to 4, 7, 9, once, not alone");
        for (String ahead : new String[] {"", "from:", "to:", "subject:", "body:", "path:", "attachment:"}) {
            Calls.due("a * at the end of " + ahead, Calls.of(ahead + "ab*").atom(0, 3), 2);
            Calls.due("a * at the beginning of " + ahead, Calls.of(ahead + "*ab").atom(0, 3), 0);
            Calls.due("a * within " + ahead, Calls.of(ahead + "a*b").atom(0, 3), 1);
            Calls.due("a * beside one byte in " + ahead, Calls.of(ahead + "*.").atom(0, 3), 0);
            Calls.due("no * in " + ahead, Calls.of(ahead + "ab").atom(0, 3), NONE);
            Calls.faulty(ahead + "*", 4, ahead.length());
            Calls.faulty(ahead + "**", 4, ahead.length());
            Calls.faulty(ahead + "*a*", 4, ahead.length());
            Calls.faulty(ahead + "a**", 4, ahead.length());
            Calls.faulty(ahead + "\"a*\"", 4, ahead.length());
            Calls.faulty(ahead + "\"*\"", 4, ahead.length());
        }
        for (String ahead : new String[] {"id:", "type:"}) {
            for (String text : new String[] {"a*", "*a", "*", "a*b", "\"a*\""}) {
                Calls.faulty(ahead + text, 4, ahead.length());
            }
        }
        Calls.faulty("tag:a*", 4, 4);
        Calls.faulty("is:unread*", 4, 3);
        Calls.faulty("date:1d*", 4, 5);
        Calls.faulty("size:1*", 4, 5);
        Calls.reads("a* b* from:*c \"d\"", 4);
    }

    private static void queryOfNothing() {
        Calls.sentence("QUERY: nothing (all), or ANY");
        for (String text : new String[] {"", " ", "\t", " ".repeat(600), "\t ".repeat(300)}) {
            MailQueries x = Calls.of("a");
            Calls.due("read() of spaces", Calls.read(x, text), 0);
            Calls.due("fault(0) of spaces", x.fault(0), 0);
            Calls.due("tree(0) of spaces", x.tree(0), NONE);
            Calls.due("ask(0) of spaces", x.ask(0), true);
        }
        Calls.faulty("()", 1, 1);
        Calls.faulty("( )", 1, 2);
        Calls.faulty("not ()", 1, 5);
    }

    private static void queryParts() {
        Calls.sentence("ANY: EITHERs with or between");
        Calls.trees("a", "0");
        Calls.trees("a or b", "or 0 1");
        Calls.trees("a xor b or c xor d", "or xor 0 1 xor 2 3");
        Calls.faulty("or", 1, 0);
        Calls.faulty("a or", 1, 4);
        Calls.faulty("a or or b", 1, 5);
        Calls.faulty("or a", 1, 0);
        Calls.sentence("EITHER: ALLs with xor between");
        Calls.trees("a b xor c and d", "xor and 0 1 and 2 3");
        Calls.faulty("xor", 1, 0);
        Calls.faulty("a xor", 1, 5);
        Calls.faulty("a xor xor b", 1, 6);
        Calls.faulty("a xor or b", 1, 6);
        Calls.sentence("ALL: NEGs with and, or nothing, between");
        Calls.trees("a and b c", "and and 0 1 2");
        Calls.trees("not a not b", "and not 0 not 1");
        Calls.trees("a and not b (c)(d)", "and and and 0 not 1 2 3");
        Calls.faulty("and", 1, 0);
        Calls.faulty("a and", 1, 5);
        Calls.faulty("a and and b", 1, 6);
        Calls.faulty("a and xor b", 1, 6);
        Calls.sentence("NEG: not NEG, or an ATOM, or ( ANY )");
        Calls.trees("not not not a", "not not not 0");
        Calls.trees("not a or b", "or not 0 1");
        Calls.trees("not a xor b", "xor not 0 1");
        Calls.trees("not a b", "and not 0 1");
        Calls.trees("not (a or b)", "not or 0 1");
        Calls.trees("(a or b)", "or 0 1");
        Calls.trees("(((a)))", "0");
        Calls.faulty("not", 1, 3);
        Calls.faulty("not not", 1, 7);
        Calls.faulty("not and a", 1, 4);
        Calls.faulty("a not or b", 1, 6);
        Calls.faulty("(a", 1, 2);
        Calls.faulty("(a or)", 1, 5);
        Calls.faulty("(not)", 1, 4);
        Calls.faulty("(and a)", 1, 1);
        Calls.faulty("a)", 1, 1);
        Calls.faulty("(a))", 1, 3);
        Calls.reads("not ".repeat(149) + "a", 1);
        Calls.reads("not(".repeat(20) + "a" + ")".repeat(20), 1);
        Calls.faulty("not ".repeat(150), 1, 600);
    }

    private static void atMost40Atoms() {
        Calls.sentence("At most 40 ATOMS");
        Calls.reads(Calls.joined(" ", 0, 40), 40);
        Calls.reads(Calls.joined(" or ", 0, 40), 40);
        Calls.reads("not(" + Calls.joined(")xor not(", 0, 40) + ")", 40);
        Calls.reads("a ".repeat(40), 1);
        Calls.reads("(a)".repeat(40), 1);
        Calls.reads("\"a\"".repeat(40), 1);
        Calls.faulty(Calls.joined(" ", 0, 41), 5, 120);
        Calls.faulty("a ".repeat(41), 5, 80);
        Calls.faulty("a ".repeat(40) + "or from:\"b\"", 5, 83);
        Calls.faulty("a ".repeat(40) + "(not (b", 5, 86);
        MailQueries x = new MailQueries();
        for (int i = 0; i < 6; i++) {
            Calls.due("read() of 40 on the same object", Calls.read(x, Calls.joined(" ", 0, 40)), 40);
            Calls.due("read() of 41 on the same object", Calls.read(x, Calls.joined(" ", 0, 41)), Calls.THROWN);
        }
    }

    private static void atMost20Open() {
        Calls.sentence("20 ( in one another");
        Calls.reads("(".repeat(20) + "a" + ")".repeat(20), 1);
        Calls.reads(("(".repeat(20) + "a" + ")".repeat(20)).repeat(14), 1);
        Calls.reads("(".repeat(19) + "(a)(b)" + ")".repeat(19) + "(c)", 3);
        Calls.reads("not (".repeat(20) + "a" + ")".repeat(20), 1);
        for (String sign : new String[] {"or", "xor", "and"}) {
            String inner = "(".repeat(20) + "a " + sign + " b" + ")".repeat(20);
            Calls.trees("z " + inner + " or y", "or and 0 " + sign + " 1 2 3");
            Calls.trees("z or z z or " + inner, "or or 0 and 0 0 " + sign + " 1 2");
        }
        MailQueries x = new MailQueries();
        for (int i = 0; i < 3; i++) {
            Calls.due("read() of 20 (", Calls.read(x, "(".repeat(20) + "a" + ")".repeat(20)), 1);
            Calls.due("read() of 20 ( that stay open", Calls.read(x, "(".repeat(20) + "a"), Calls.THROWN);
        }
        Calls.faulty("(".repeat(21) + "a" + ")".repeat(21), 5, 20);
        Calls.faulty("a or not " + "( ".repeat(21), 5, 49);
        Calls.faulty("(".repeat(20) + "a) (b) ((", 5, 28);
        Calls.faulty("(".repeat(600), 5, 20);
    }
}
