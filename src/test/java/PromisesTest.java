/** The document's promises 1 to 15, sentence by sentence: ordinary inputs, boundary cases, wrong inputs. */
public final class PromisesTest {
    private static final int NONE = MailQueries.NONE;
    private static final int MIN = Integer.MIN_VALUE;
    private static final int MAX = Integer.MAX_VALUE;
    // None of them is an index, an atom or a what that there is.
    private static final int[] OUTSIDE = {-1, -2, MIN, MIN + 1, MAX, MAX - 1, 600, 1200, 65536, 1 << 30};

    public static void main(String[] args) {
        newObject();
        feedPutsTwentyBytes();
        feedBytesAreZero();
        endAnswersLength();
        endRefusesWrongCounts();
        endRefusesMoreThan600();
        readTakesTheText();
        readCountsAtoms();
        readThrows();
        faultOfLatestRead();
        faultOfAnotherWhat();
        atomAnswers();
        atomOfNoneSuch();
        atomByte();
        rangeOfDays();
        rangeOfBytes();
        rangeOfOthers();
        tree();
        print();
        printed();
        normal();
        normalThatThereIsNot();
        row();
        rowOfNoneSuch();
        ask();
        ways();
        waysOfMore();
        Calls.finish();
    }

    private static void feedAll(MailQueries x, char b) {
        int four = b * 0x01010101;
        x.feed(four, four, four, four, four);
    }

    private static void quote(MailQueries x) {
        x.feed('"' << 24, 0, 0, 0, 0);
        x.end(1);
    }

    private static void newObject() {
        Calls.sentence("1: No text in hand");
        Calls.due("end(0)", new MailQueries().end(0), 0);
        Calls.due("end(1)", new MailQueries().end(1), 1);
        Calls.due("read()", new MailQueries().read(), 0);
        Calls.sentence("1: the QUERY is nothing");
        MailQueries x = new MailQueries();
        Calls.due("fault(0)", x.fault(0), 0);
        Calls.due("fault(1)", x.fault(1), NONE);
        for (int what = 0; what < 5; what++) {
            Calls.due("atom(0, " + what + ")", x.atom(0, what), NONE);
        }
        Calls.due("atomByte(0, 0)", x.atomByte(0, 0), NONE);
        Calls.due("range(0, 0)", x.range(0, 0), 0);
        Calls.due("tree(0)", x.tree(0), NONE);
        Calls.due("printed(0)", x.printed(0), NONE);
        Calls.due("row(0, false)", x.row(0, false), 0);
        Calls.due("row(0, true)", x.row(0, true), 0);
        Calls.due("ask(0)", x.ask(0), true);
        Calls.due("ask(-1)", x.ask(-1), true);
        Calls.due("ways()", x.ways(), 1);
        Calls.due("print()", x.print(), 0);
        Calls.due("normal()", x.normal(), 1);
        MailQueries one = Calls.of("a");
        Calls.due("tree(0) of another object", new MailQueries().tree(0), NONE);
        Calls.due("tree(0) of the object before", one.tree(0), 0);
    }

    private static void feedPutsTwentyBytes() {
        Calls.sentence("2: Puts twenty bytes ready, those of a first, the highest of each first.");
        MailQueries x = new MailQueries();
        x.feed(0x22806162, 0x63646566, 0xff010203, 0x7f806768, 0x69216a22);
        Calls.due("end(20)", x.end(20), 20);
        Calls.due("read()", x.read(), 1);
        int[] bytes = {128, 'a', 'b', 'c', 'd', 'e', 'f', 255, 1, 2, 3, 127, 128, 'g', 'h', 'i', '!', 'j'};
        for (int k = 0; k < bytes.length; k++) {
            Calls.due("atomByte(0, " + k + ")", x.atomByte(0, k), bytes[k]);
        }
        feedAll(x, 'a');
        x.feed(0x62202020, 0x20202020, 0x20202020, 0x20202020, 0x20202020);
        x.end(20);
        Calls.due("read() behind two feed", x.read(), 1);
        Calls.due("atom(0, 2) behind two feed", x.atom(0, 2), 1);
        Calls.due("atomByte(0, 0) behind two feed", x.atomByte(0, 0), 'b');
        feedAll(x, 'a');
        Calls.due("read() behind feed without end", x.read(), 0);
        Calls.due("end(3) of what was fed ahead of read()", x.end(3), 3);
        Calls.due("read() of it", x.read(), 1);
        Calls.due("its text", Calls.atomText(x, 0), "aaa");
    }

    /** The bytes behind n that were fed, as a phrase that ends with what was ready behind end(n). */
    private static void zerosBehind(int n) {
        MailQueries x = new MailQueries();
        quote(x);
        feedAll(x, 'a');
        Calls.due("end(" + n + ")", x.end(n), 1 + n);
        Calls.due("end(20)", x.end(20), 21 + n);
        quote(x);
        Calls.due("read()", x.read(), 1);
        Calls.due("atom(0, 2)", x.atom(0, 2), 20 + n);
        for (int k = 0; k < 20 + n; k++) {
            Calls.due("behind end(" + n + "), atomByte(0, " + k + ")", x.atomByte(0, k), k < n ? 'a' : 0);
        }
    }

    private static void feedBytesAreZero() {
        Calls.sentence("2: (They are 0 at first ..)");
        MailQueries x = new MailQueries();
        Calls.due("end(20)", x.end(20), 20);
        Calls.due("read()", Calls.read(x, ""), Calls.THROWN);
        Calls.due("fault(0)", x.fault(0), 2);
        Calls.due("fault(1)", x.fault(1), 0);
        Calls.sentence("2: (They are 0 .. behind each end() that answers a number.)");
        for (int n = 0; n <= 20; n++) {
            zerosBehind(n);
        }
        Calls.sentence("2: (They are 0 .. behind each end() that answers a number: not behind NONE)");
        for (int n : new int[] {-1, 21, MIN, MAX}) {
            MailQueries y = new MailQueries();
            quote(y);
            feedAll(y, 'a');
            Calls.due("end(" + n + ")", y.end(n), NONE);
            Calls.due("end(20)", y.end(20), 21);
            quote(y);
            Calls.due("read()", y.read(), 1);
            Calls.due("the text", Calls.atomText(y, 0), "a".repeat(20));
        }
    }

    private static void endAnswersLength() {
        Calls.sentence("3: The first n of the bytes that are ready come to the text in hand: how many it has.");
        for (int n = 0; n <= 20; n++) {
            MailQueries x = new MailQueries();
            feedAll(x, 'b');
            Calls.due("end(" + n + ")", x.end(n), n);
            feedAll(x, 'c');
            Calls.due("end(1) behind", x.end(1), n + 1);
            Calls.due("end(0) behind", x.end(0), n + 1);
            Calls.due("read()", x.read(), 1);
            Calls.due("the text", Calls.atomText(x, 0), "b".repeat(n) + "c");
        }
    }

    private static void endRefusesWrongCounts() {
        Calls.sentence("3: NONE, and nothing comes, if n is not 0 .. 20");
        MailQueries x = new MailQueries();
        for (int n : new int[] {-1, -20, MIN, MIN + 20, 21, 22, 600, 601, MAX, MAX - 20}) {
            feedAll(x, 'a');
            Calls.due("end(" + n + ")", x.end(n), NONE);
            Calls.due("read() behind end(" + n + ")", x.read(), 0);
        }
        Calls.due("end(0)", x.end(0), 0);
        Calls.read(x, "");
        Calls.put(x, "abc");
        Calls.due("end(21) behind three bytes", x.end(21), NONE);
        Calls.due("end(-1) behind three bytes", x.end(-1), NONE);
        Calls.due("end(0) behind three bytes", x.end(0), 3);
    }

    private static MailQueries withSpaces(int count) {
        MailQueries x = new MailQueries();
        Calls.put(x, " ".repeat(count));
        Calls.due("end(0) behind " + count, x.end(0), count);
        return x;
    }

    private static void endRefusesMoreThan600() {
        Calls.sentence("3: NONE, and nothing comes, if .. it would have more than 600.");
        MailQueries x = withSpaces(580);
        feedAll(x, 'a');
        Calls.due("end(20) to 600", x.end(20), 600);
        Calls.due("end(1) beyond 600", x.end(1), NONE);
        Calls.due("end(20) beyond 600", x.end(20), NONE);
        Calls.due("end(0) at 600", x.end(0), 600);
        Calls.due("read() of 600", x.read(), 1);
        Calls.due("the text", Calls.atomText(x, 0), "a".repeat(20));
        Calls.due("end(0) behind read()", x.end(0), 0);
        MailQueries y = withSpaces(599);
        x = withSpaces(581);
        feedAll(x, 'a');
        Calls.due("end(20) to 601", x.end(20), NONE);
        Calls.due("end(0) behind it", x.end(0), 581);
        feedAll(y, 'a');
        Calls.due("end(2) to 601", y.end(2), NONE);
        Calls.due("end(20) to 619", y.end(20), NONE);
        Calls.due("end(1) to 600, and the bytes stayed", y.end(1), 600);
        Calls.due("read() of 600", y.read(), 1);
        Calls.due("the text", Calls.atomText(y, 0), "a");
        MailQueries z = Calls.of("b");
        Calls.put(z, "x".repeat(600));
        Calls.due("read() of one long text", z.read(), 1);
        Calls.due("its length", z.atom(0, 2), 600);
        Calls.due("its last byte", z.atomByte(0, 599), 'x');
        Calls.due("none behind it", z.atomByte(0, 600), NONE);
        Calls.due("print() of it", z.print(), 600);
        Calls.due("the last byte printed", z.printed(599), 'x');
        Calls.due("none behind it printed", z.printed(600), NONE);
    }

    private static void readTakesTheText() {
        Calls.sentence("4: The text in hand, which is empty then, is the QUERY");
        MailQueries x = Calls.of("from:a or b");
        Calls.due("end(0)", x.end(0), 0);
        Calls.due("the tree", Calls.tree(x), "or 0 1");
        Calls.due("the next text", Calls.read(x, "c d e"), 3);
        Calls.due("its tree", Calls.tree(x), "and and 0 1 2");
        Calls.due("its first atom's field", x.atom(0, 0), 0);
        Calls.due("its first atom", Calls.atomText(x, 0), "c");
        Calls.due("read() of an empty text", x.read(), 0);
        Calls.due("no atom", x.atom(0, 0), NONE);
        Calls.due("no tree", x.tree(0), NONE);
        Calls.due("all messages", x.ask(0), true);
        Calls.due("a text with a fault", Calls.read(x, "c (d"), Calls.THROWN);
        Calls.due("end(0) behind a fault", x.end(0), 0);
        Calls.due("a text behind a fault", Calls.read(x, "d"), 1);
        Calls.due("its tree behind a fault", Calls.tree(x), "0");
    }

    private static void readCountsAtoms() {
        Calls.sentence("4: how many different ATOMS");
        Calls.reads("", 0);
        Calls.reads("a", 1);
        Calls.reads("a A \"a\" \"A\" from:a from:A", 3);
        Calls.reads("a ".repeat(40), 1);
        Calls.reads(Calls.joined(" ", 0, 40), 40);
    }

    private static void readThrows() {
        Calls.sentence("4: IllegalArgumentException: a FAULT (the QUERY stays)");
        MailQueries x = Calls.of("from:Ab* or date:1d..\"c d\" from:ab*");
        x.normal();
        String[] faults = {"(", "\u00e9", "who:x", "tag:A", "z ".repeat(41), "x y z or", "is:unread size:1k..2k tag:A"};
        for (String fault : faults) {
            Calls.due("read() of " + fault, Calls.read(x, fault), Calls.THROWN);
            Calls.due("the tree behind " + fault, Calls.tree(x), "or 0 and and 1 2 0");
            Calls.due("the first field behind " + fault, x.atom(0, 0), 1);
            Calls.due("the first text behind " + fault, Calls.atomText(x, 0), "Ab*");
            Calls.due("the * behind " + fault, x.atom(0, 3), 2);
            Calls.due("how often behind " + fault, x.atom(0, 4), 2);
            Calls.due("the phrase behind " + fault, x.atom(2, 1), 1);
            Calls.due("no fourth atom behind " + fault, x.atom(3, 0), NONE);
            Calls.due("range(1, 0) behind " + fault, x.range(1, 0), -1);
            Calls.due("normal() behind " + fault, x.normal(), 1);
            Calls.due("ask(6) behind " + fault, x.ask(6), false);
            Calls.due("ask(1) behind " + fault, x.ask(1), true);
            Calls.due("ways() behind " + fault, x.ways(), 4);
        }
        Calls.due("print()", Calls.printed(x, x.print()), "from:Ab* or date:1d.. \"c d\" from:Ab*");
        MailQueries y = new MailQueries();
        Calls.due("read() of a fault first of all", Calls.read(y, ")"), Calls.THROWN);
        Calls.due("ask(0): the QUERY is nothing still", y.ask(0), true);
        Calls.due("tree(0): the QUERY is nothing still", y.tree(0), NONE);
    }

    private static void faultOfLatestRead() {
        Calls.sentence("5: Of the latest read(): the FAULT, 0 without (what = 0), its place (1; NONE without).");
        MailQueries x = new MailQueries();
        Calls.due("fault(0) ahead of read()", x.fault(0), 0);
        Calls.due("fault(1) ahead of read()", x.fault(1), NONE);
        String[] texts = {"a or", "\u00e9", " who:x", "tag:A", "(".repeat(21), "a", ""};
        int[] kinds = {1, 2, 3, 4, 5, 0, 0};
        int[] places = {4, 0, 1, 4, 20, NONE, NONE};
        for (int i = 0; i < texts.length; i++) {
            Calls.read(x, texts[i]);
            Calls.due("fault(0) of " + texts[i], x.fault(0), kinds[i]);
            Calls.due("fault(1) of " + texts[i], x.fault(1), places[i]);
            Calls.due("fault(0) again of " + texts[i], x.fault(0), kinds[i]);
            Calls.put(x, "(");
            Calls.due("fault(0) of the latest read(), not of the text in hand", x.fault(0), kinds[i]);
            Calls.read(x, "a)");
        }
    }

    private static void faultOfAnotherWhat() {
        Calls.sentence("5: NONE for another what.");
        MailQueries x = Calls.of("a");
        MailQueries y = new MailQueries();
        Calls.read(y, "a or");
        Calls.due("fault(2)", x.fault(2), NONE);
        Calls.due("fault(2) with a FAULT", y.fault(2), NONE);
        for (int what : OUTSIDE) {
            Calls.due("fault(" + what + ")", x.fault(what), NONE);
            Calls.due("fault(" + what + ") with a FAULT", y.fault(what), NONE);
        }
    }

    private static void atomAnswers() {
        Calls.sentence("6: its FIELD (0), 1 if it is a PHRASE (1), how many bytes (2), where a * stands (3; NONE), how often (4)");
        MailQueries x = Calls.of("subject:\"Hello World\" or foo* tag:x or SUBJECT or subject:\"hello world\" FOO* foo");
        int[][] due = {{3, 1, 11, NONE, 2}, {0, 0, 4, 3, 2}, {5, 0, 1, NONE, 1}, {0, 0, 7, NONE, 1}, {0, 0, 3, NONE, 1}};
        for (int a = 0; a < due.length; a++) {
            for (int what = 0; what < 5; what++) {
                Calls.due("atom(" + a + ", " + what + ")", x.atom(a, what), due[a][what]);
            }
        }
        MailQueries y = Calls.of("a ".repeat(40));
        Calls.due("atom(0, 4) of 40 alike", y.atom(0, 4), 40);
        MailQueries z = Calls.of(Calls.joined(" ", 0, 40));
        Calls.due("atom(39, 2) of 40", z.atom(39, 2), 2);
        Calls.due("atom(39, 4) of 40", z.atom(39, 4), 1);
        Calls.due("the next text", Calls.read(z, "from:*b"), 1);
        Calls.due("atom(0, 3) of it", z.atom(0, 3), 0);
        Calls.due("atom(0, 4) of it", z.atom(0, 4), 1);
        String[] texts = {"a a a", "*b", "c c", "d", "\"e\"", "e", "f"};
        int[] phrases = {0, 0, 0, 0, 1, 0, 0};
        int[] stars = {NONE, 0, NONE, NONE, NONE, NONE, NONE};
        int[] often = {3, 1, 2, 1, 1, 1, 1};
        for (int i = 0; i < texts.length; i++) {
            Calls.read(z, texts[i]);
            Calls.due("atom(0, 1) of " + texts[i], z.atom(0, 1), phrases[i]);
            Calls.due("atom(0, 3) of " + texts[i], z.atom(0, 3), stars[i]);
            Calls.due("atom(0, 4) of " + texts[i], z.atom(0, 4), often[i]);
        }
    }

    private static void atomOfNoneSuch() {
        Calls.sentence("6: NONE if there is none such, or for another what.");
        MailQueries x = Calls.of("from:a b* \"c\"");
        for (int what = 0; what < 5; what++) {
            Calls.due("atom(3, " + what + ")", x.atom(3, what), NONE);
            for (int atom : OUTSIDE) {
                Calls.due("atom(" + atom + ", " + what + ")", x.atom(atom, what), NONE);
            }
        }
        for (int atom = 0; atom < 3; atom++) {
            Calls.due("atom(" + atom + ", 5)", x.atom(atom, 5), NONE);
            for (int what : OUTSIDE) {
                Calls.due("atom(" + atom + ", " + what + ")", x.atom(atom, what), NONE);
            }
        }
        Calls.read(x, "d");
        Calls.due("atom(1, 0) of the next text", x.atom(1, 0), NONE);
    }

    private static void atomByte() {
        Calls.sentence("7: Byte k of its TEXT, as it first came");
        MailQueries x = Calls.of("from:\"A: (b\" AbC aBc from:\"a: (B\" size:1k");
        Calls.due("the phrase without its \"", Calls.atomText(x, 0), "A: (b");
        Calls.due("as it first came", Calls.atomText(x, 1), "AbC");
        Calls.due("without its FIELD", Calls.atomText(x, 2), "1k");
        Calls.due("a byte above 127", Calls.of("\"\u00ff\u0080\"").atomByte(0, 1), 128);
        Calls.due("a byte 0", Calls.of("\"\u0000\"").atomByte(0, 0), 0);
        Calls.sentence("7: NONE if there is none.");
        Calls.due("atomByte(0, 5)", x.atomByte(0, 5), NONE);
        Calls.due("atomByte(1, 3)", x.atomByte(1, 3), NONE);
        Calls.due("atomByte(3, 0)", x.atomByte(3, 0), NONE);
        for (int outside : OUTSIDE) {
            Calls.due("atomByte(0, " + outside + ")", x.atomByte(0, outside), NONE);
            Calls.due("atomByte(" + outside + ", 0)", x.atomByte(outside, 0), NONE);
            Calls.due("atomByte(" + outside + ", " + outside + ")", x.atomByte(outside, outside), NONE);
        }
    }

    private static void rangeOfDays() {
        Calls.sentence("8: days since the beginning of 1970");
        Calls.ranges("date:19700101", 0, 0);
        Calls.ranges("date:19700102..19710101", 1, 365);
        Calls.ranges("date:20000228..20000229", 11015, 11016);
        Calls.ranges("date:20000301..29991231", 11017, 376199);
        Calls.sentence("8: or, of a number with d, w, m, y (1, 7, 30, 365 days), minus so many days");
        Calls.ranges("date:1d..999d", -1, -999);
        Calls.ranges("date:1w..999w", -7, -6993);
        Calls.ranges("date:1m..999m", -30, -29970);
        Calls.ranges("date:1y..999y", -365, -364635);
        Calls.sentence("8: A alone: both");
        Calls.ranges("date:20200229", 18321, 18321);
        Calls.ranges("date:3m", -90, -90);
        Calls.ranges("size:10k", 10240, 10240);
        Calls.sentence("8: an open end: -2147483648, 2147483647");
        Calls.ranges("date:3m..", -90, MAX);
        Calls.ranges("date:..29991231", MIN, 376199);
        Calls.ranges("size:0..", 0, MAX);
        Calls.ranges("size:..0", MIN, 0);
        Calls.sentence("8: the least (what = 0), the greatest (1) (A..B as it stands, if A is more than B)");
        Calls.ranges("date:1w..2w", -7, -14);
        Calls.ranges("size:5..1", 5, 1);
    }

    private static void rangeOfBytes() {
        Calls.sentence("8: bytes (k 1024, m 1048576 times; above 2147483647 that)");
        Calls.ranges("size:0", 0, 0);
        Calls.ranges("size:1..9999999", 1, 9999999);
        Calls.ranges("size:1k..1m", 1024, 1048576);
        Calls.ranges("size:2047m..2048m", 2146435072, MAX);
        Calls.ranges("size:2097151k..2097152k", 2147482624, MAX);
        Calls.ranges("size:2049m..4096m", MAX, MAX);
        Calls.ranges("size:4194304k..9999999k", MAX, MAX);
        Calls.ranges("size:9999999m", MAX, MAX);
    }

    private static void rangeOfOthers() {
        Calls.sentence("8: 0 for others.");
        MailQueries x = Calls.of("from:5 size:5 5 tag:5 id:19700105 \"1d\" is:unread");
        for (int what = 0; what < 2; what++) {
            Calls.due("range(1, " + what + ")", x.range(1, what), 5);
            for (int atom : new int[] {0, 2, 3, 4, 5, 6, 7}) {
                Calls.due("range(" + atom + ", " + what + ")", x.range(atom, what), 0);
            }
            for (int atom : OUTSIDE) {
                Calls.due("range(" + atom + ", " + what + ")", x.range(atom, what), 0);
            }
        }
        Calls.due("range(1, 2)", x.range(1, 2), 0);
        for (int what : OUTSIDE) {
            Calls.due("range(1, " + what + ")", x.range(1, what), 0);
        }
        Calls.due("the next text", Calls.read(x, "a from:5"), 2);
        Calls.due("range(1, 0) of it", x.range(1, 0), 0);
        Calls.due("range(1, 1) of it", x.range(1, 1), 0);
    }

    private static void tree() {
        Calls.sentence("9: entry k: the ATOM's number, or -2 not, -3 and, -4 or, -5 xor");
        MailQueries x = Calls.of("not a or b xor c d");
        int[] due = {-4, -2, 0, -5, 1, -3, 2, 3};
        for (int k = 0; k < due.length; k++) {
            Calls.due("tree(" + k + ")", x.tree(k), due[k]);
        }
        Calls.sentence("9: NONE if there is none such.");
        Calls.due("tree(8)", x.tree(8), NONE);
        for (int k : OUTSIDE) {
            Calls.due("tree(" + k + ")", x.tree(k), NONE);
        }
        Calls.read(x, "a");
        Calls.due("tree(1) of the next text", x.tree(1), NONE);
    }

    private static void print() {
        Calls.sentence("10: The QUERY is PRINTED: how many bytes.");
        MailQueries x = Calls.of("  from:a  and ( b or \"c d\" ) ");
        Calls.due("print()", x.print(), 19);
        Calls.due("print() again", x.print(), 19);
        Calls.due("what was printed", Calls.printed(x, 19), "from:a (b or \"c d\")");
        Calls.due("print() of nothing", new MailQueries().print(), 0);
        Calls.prints("\"a b\"", "\"a b\"");
    }

    private static void printed() {
        Calls.sentence("11: Byte k of what was PRINTED last");
        MailQueries x = Calls.of("a and b");
        Calls.due("printed(0) ahead of print()", x.printed(0), NONE);
        Calls.due("print()", x.print(), 3);
        Calls.due("printed(0)", x.printed(0), 'a');
        Calls.due("printed(1)", x.printed(1), ' ');
        Calls.due("printed(2)", x.printed(2), 'b');
        Calls.due("the next text", Calls.read(x, "\"\u00ff\" c d"), 3);
        Calls.due("printed(0) stays behind read()", x.printed(0), 'a');
        Calls.due("printed(3) stays behind read()", x.printed(3), NONE);
        Calls.due("a fault", Calls.read(x, ")"), Calls.THROWN);
        Calls.due("printed(2) stays behind a fault", x.printed(2), 'b');
        Calls.due("print() again", x.print(), 7);
        Calls.due("printed(1) of it", x.printed(1), 255);
        Calls.due("printed(6) of it", x.printed(6), 'd');
        Calls.sentence("11: NONE if there is none.");
        Calls.due("printed(7)", x.printed(7), NONE);
        for (int k : OUTSIDE) {
            Calls.due("printed(" + k + ")", x.printed(k), NONE);
        }
        Calls.due("an empty text", Calls.read(x, ""), 0);
        Calls.due("print() of it", x.print(), 0);
        Calls.due("printed(0) of it", x.printed(0), NONE);
    }

    private static void normal() {
        Calls.sentence("12: The QUERY is made NORMAL: how many rows");
        Calls.normals("(a or b) not c", 2, "a!c b!c");
        Calls.normals("a not a", 0, "");
        Calls.normalCounts(Calls.joined(" or ", 0, 40), 40);
        Calls.sentence("12: (one that is empty, if it is nothing)");
        MailQueries x = Calls.of("a or b");
        Calls.due("normal()", x.normal(), 2);
        Calls.due("an empty text", Calls.read(x, " "), 0);
        Calls.due("normal() of it", x.normal(), 1);
        Calls.due("row(0, false) of it", x.row(0, false), 0);
        Calls.due("row(0, true) of it", x.row(0, true), 0);
        Calls.due("row(1, false) of it", x.row(1, false), 0);
    }

    private static void normalThatThereIsNot() {
        Calls.sentence("12: NONE if there is none.");
        MailQueries x = Calls.of(Calls.joined(" xor ", 0, 9));
        Calls.due("normal()", x.normal(), NONE);
        Calls.due("normal() again", x.normal(), NONE);
        Calls.due("row(0, false): there was no NORMAL yet", x.row(0, false), 0);
        Calls.due("the tree stays", x.tree(16), 8);
        Calls.due("a text behind it", Calls.read(x, "not a or b"), 2);
        Calls.due("normal() of it", x.normal(), 2);
        Calls.due("row(0, true) of it", x.row(0, true), 1);
        Calls.due("a text without a NORMAL", Calls.read(x, Calls.joined(" xor ", 0, 9)), 9);
        Calls.due("normal() of that", x.normal(), NONE);
        Calls.due("row(0, true) of the latest NORMAL", x.row(0, true), 1);
        Calls.due("row(1, false) of the latest NORMAL", x.row(1, false), 2);
        Calls.due("row(2, false) of the latest NORMAL", x.row(2, false), 0);
    }

    private static void row() {
        Calls.sentence("13: Of row k of the latest NORMAL: its ATOMS as they are, as bits (negated: those that are not).");
        MailQueries x = Calls.of("a not b or c");
        Calls.due("row(0, false) ahead of normal()", x.row(0, false), 0);
        Calls.due("normal()", x.normal(), 2);
        Calls.due("row(0, false)", x.row(0, false), 1);
        Calls.due("row(0, true)", x.row(0, true), 2);
        Calls.due("row(1, false)", x.row(1, false), 4);
        Calls.due("row(1, true)", x.row(1, true), 0);
        Calls.due("the next text", Calls.read(x, "d"), 1);
        Calls.due("row(1, false) stays behind read()", x.row(1, false), 4);
        Calls.due("normal() of it", x.normal(), 1);
        Calls.due("row(0, false) of it", x.row(0, false), 1);
        Calls.due("row(1, false) of it", x.row(1, false), 0);
        MailQueries y = Calls.of(Calls.joined(" ", 0, 40));
        Calls.due("normal() of 40", y.normal(), 1);
        Calls.due("row(0, false) of 40", y.row(0, false), (1L << 40) - 1);
        Calls.read(y, "not (" + Calls.joined(" or ", 0, 40) + ")");
        Calls.due("normal() of not 40", y.normal(), 1);
        Calls.due("row(0, true) of not 40", y.row(0, true), (1L << 40) - 1);
        Calls.due("row(0, false) of not 40", y.row(0, false), 0);
    }

    private static void rowOfNoneSuch() {
        Calls.sentence("13: 0 if there is none such.");
        MailQueries x = Calls.of("(" + Calls.joined(" or ", 0, 10) + ")(not " + Calls.joined(" or not ", 10, 30) + ")");
        Calls.due("normal()", x.normal(), 200);
        Calls.due("row(199, false)", x.row(199, false), 1L << 9);
        Calls.due("row(199, true)", x.row(199, true), 1L << 29);
        Calls.due("row(200, false)", x.row(200, false), 0);
        Calls.due("row(200, true)", x.row(200, true), 0);
        for (int k : OUTSIDE) {
            Calls.due("row(" + k + ", false)", x.row(k, false), 0);
            Calls.due("row(" + k + ", true)", x.row(k, true), 0);
        }
        Calls.read(x, "a not a");
        Calls.due("normal() without a row", x.normal(), 0);
        Calls.due("row(0, false) without a row", x.row(0, false), 0);
        Calls.due("row(0, true) without a row", x.row(0, true), 0);
    }

    private static void ask() {
        Calls.sentence("14: Whether a message for which just the ATOMS of these bits are true answers the QUERY.");
        MailQueries x = Calls.of("a (b or not c) xor d");
        for (int atoms = 0; atoms < 16; atoms++) {
            boolean a = (atoms & 1) != 0;
            boolean b = (atoms & 2) != 0;
            boolean c = (atoms & 4) != 0;
            boolean d = (atoms & 8) != 0;
            Calls.due("ask(" + atoms + ")", x.ask(atoms), (a && (b || !c)) != d);
            Calls.due("ask(" + atoms + ") with bits of no atom", x.ask(atoms | -16L), (a && (b || !c)) != d);
        }
        MailQueries y = Calls.of(Calls.joined(" ", 0, 40));
        Calls.due("all of 40", y.ask((1L << 40) - 1), true);
        for (int atom = 0; atom < 40; atom++) {
            Calls.due("all but " + atom, y.ask(~(1L << atom)), false);
        }
        MailQueries z = Calls.of(Calls.joined(" or ", 0, 40));
        for (int atom = 0; atom < 40; atom++) {
            Calls.due("only " + atom, z.ask(1L << atom), true);
        }
        Calls.due("none of 40", z.ask(0), false);
        Calls.due("bits behind 40 alone", z.ask(-1L << 40), false);
        Calls.due("the highest bit of the long alone", z.ask(Long.MIN_VALUE), false);
        Calls.due("a QUERY of nothing", new MailQueries().ask(Long.MIN_VALUE), true);
    }

    private static void ways() {
        Calls.sentence("15: How many of the ATOMS' 2^n ways (n different ones, at most 12) answer it");
        Calls.due("ways() of nothing", new MailQueries().ways(), 1);
        Calls.due("a", Calls.of("a").ways(), 1);
        Calls.due("a or not a", Calls.of("a or not a").ways(), 2);
        Calls.due("a not a", Calls.of("a not a").ways(), 0);
        for (int n = 1; n <= 12; n++) {
            Calls.due("or of " + n, Calls.of(Calls.joined(" or ", 0, n)).ways(), (1 << n) - 1);
            Calls.due("and of " + n, Calls.of(Calls.joined(" ", 0, n)).ways(), 1);
            Calls.due("xor of " + n, Calls.of(Calls.joined(" xor ", 0, n)).ways(), 1 << (n - 1));
            Calls.due("all of " + n, Calls.of("A0 or not A0 or " + Calls.joined(" or ", 0, n)).ways(), 1 << n);
            Calls.due("the last of " + n, Calls.of("(" + Calls.joined(" or ", 0, n) + ") " + Calls.joined("", n - 1, n))
                    .ways(), 1 << (n - 1));
        }
        Calls.due("12 different ones of 24", Calls.of(Calls.joined(" ", 0, 12) + " " + Calls.joined(" ", 0, 12)).ways(), 1);
    }

    private static void waysOfMore() {
        Calls.sentence("15: NONE for more ATOMS.");
        Calls.due("13", Calls.of(Calls.joined(" or ", 0, 13)).ways(), NONE);
        Calls.due("13 that no message answers", Calls.of("A0 not A0 " + Calls.joined(" ", 0, 13)).ways(), NONE);
        Calls.due("40", Calls.of(Calls.joined(" or ", 0, 40)).ways(), NONE);
        MailQueries x = Calls.of(Calls.joined(" or ", 0, 13));
        x.ways();
        Calls.due("the next text", Calls.read(x, "a or b"), 2);
        Calls.due("ways() of it", x.ways(), 3);
    }
}
