/** Each promise of the document with ordinary inputs, its edges, and wrong inputs. */
public final class PromisesTest {
    private static final int NONE = MailQueries.NONE;
    private static final int OPEN_LEAST = Integer.MIN_VALUE;
    private static final int OPEN_GREATEST = Integer.MAX_VALUE;

    public static void main(String[] args) {
        newObject();
        feed();
        end();
        readKeepsTheQuery();
        readNumbersAtoms();
        fault();
        faultsOfFields();
        faultsOfTexts();
        faultsOfLimits();
        atom();
        atomByte();
        rangeOfDate();
        rangeOfSize();
        tree();
        print();
        printed();
        normal();
        normalTooMany();
        row();
        ask();
        ways();
        Calls.finish();
    }

    private static void newObject() {
        MailQueries x = new MailQueries();
        Calls.due("1: end(0)", x.end(0), 0);
        Calls.due("1: fault(0)", x.fault(0), 0);
        Calls.due("1: fault(1)", x.fault(1), NONE);
        Calls.due("1: atom(0, 0)", x.atom(0, 0), NONE);
        Calls.due("1: tree(0)", x.tree(0), NONE);
        Calls.due("1: printed(0)", x.printed(0), NONE);
        Calls.due("1: row(0, false)", x.row(0, false), 0);
        Calls.due("1: ask(0)", x.ask(0), true);
        Calls.due("1: ask(-1)", x.ask(-1), true);
        Calls.due("1: ways()", x.ways(), 1);
        Calls.due("1: print()", x.print(), 0);
        Calls.due("1: normal()", x.normal(), 1);
        Calls.due("1: read()", x.read(), 0);
    }

    private static void feed() {
        MailQueries x = new MailQueries();
        x.feed(0x22806162, 0x63646566, 0xff010203, 0x7f806768, 0x69216a22);
        Calls.due("2: end(20)", x.end(20), 20);
        Calls.due("2: read()", x.read(), 1);
        int[] bytes = {128, 'a', 'b', 'c', 'd', 'e', 'f', 255, 1, 2, 3, 127, 128, 'g', 'h', 'i', '!', 'j'};
        for (int k = 0; k < bytes.length; k++) {
            Calls.due("2: atomByte(0, " + k + ")", x.atomByte(0, k), bytes[k]);
        }
        x.feed(0x61616161, 0, 0, 0, 0);
        x.feed(0x62000000, 0, 0, 0, 0);
        x.end(1);
        Calls.due("2: read() of the later feed", x.read(), 1);
        Calls.due("2: atomByte of the later feed", x.atomByte(0, 0), 'b');
        Calls.due("2: only one byte", x.atomByte(0, 1), NONE);
    }

    private static void end() {
        MailQueries x = new MailQueries();
        x.feed(0x61616161, 0x61616161, 0x61616161, 0x61616161, 0x61616161);
        Calls.due("3: end(21)", x.end(21), NONE);
        Calls.due("3: end(-1)", x.end(-1), NONE);
        Calls.due("3: end(MIN)", x.end(Integer.MIN_VALUE), NONE);
        Calls.due("3: end(MAX)", x.end(Integer.MAX_VALUE), NONE);
        Calls.due("3: end(1) has what was fed", x.end(1), 1);
        Calls.due("3: end(1) has a 0 then", x.end(1), 2);
        Calls.due("3: read() of a0", Calls.read(x, ""), -100);
        Calls.due("3: the fault of a0", x.fault(1), 1);
        x.feed(0x61616161, 0, 0, 0, 0);
        Calls.due("3: end(0)", x.end(0), 0);
        Calls.due("3: end(1) behind end(0)", x.end(1), 1);
        Calls.due("3: the bytes were 0 behind end(0)", Calls.read(x, ""), -100);

        for (int i = 1; i <= 29; i++) {
            x.feed(0x20202020, 0x20202020, 0x20202020, 0x20202020, 0x20202020);
            Calls.due("3: end(20)", x.end(20), 20 * i);
        }
        x.feed(0x20202020, 0x20202020, 0x20202020, 0x20202020, 0x20202020);
        Calls.due("3: end(19)", x.end(19), 599);
        x.feed(0x61202020, 0, 0, 0, 0);
        Calls.due("3: end(2) beyond 600", x.end(2), NONE);
        Calls.due("3: end(1) to 600, and the bytes stayed", x.end(1), 600);
        Calls.due("3: end(1) beyond 600", x.end(1), NONE);
        Calls.due("3: end(0) at 600", x.end(0), 600);
        Calls.due("3: read() of 600", x.read(), 1);
        Calls.due("3: end(0) behind read()", x.end(0), 0);
    }

    private static void readKeepsTheQuery() {
        MailQueries x = Calls.of("from:a or b");
        Calls.due("4: a fault", Calls.read(x, "c (d"), -100);
        Calls.due("4: the text is empty behind a fault", x.end(0), 0);
        Calls.due("4: the tree stays", Calls.tree(x), "or 0 1");
        Calls.due("4: the atoms stay", x.atom(0, 0), 1);
        Calls.due("4: the texts stay", Calls.atomText(x, 1), "b");
        Calls.due("4: print()", Calls.printed(x, x.print()), "from:a or b");
        Calls.due("4: the next one", Calls.read(x, "c d e"), 3);
        Calls.due("4: and its tree", Calls.tree(x), "and and 0 1 2");
        Calls.due("4: nothing", Calls.read(x, ""), 0);
        Calls.due("4: nothing is the query", x.atom(0, 0), NONE);
        Calls.due("4: spaces", Calls.read(x, " \t \t"), 0);
    }

    private static void readNumbersAtoms() {
        Calls.due("4: letters alike", Calls.read(new MailQueries(), "abC ABc aBC"), 1);
        Calls.due("4: phrases alike", Calls.read(new MailQueries(), "\"a B\" \"A b\""), 1);
        Calls.due("4: a phrase and bytes", Calls.read(new MailQueries(), "ab \"ab\""), 2);
        Calls.due("4: fields differ", Calls.read(new MailQueries(), "a from:a to:a from:A"), 3);
        Calls.due("4: the outermost letters alike", Calls.read(new MailQueries(), "az AZ aZ"), 1);
        Calls.due("4: the outermost bytes", Calls.read(new MailQueries(), "! ~ !~ '' ++ 99 ;;"), 7);
        Calls.due("4: only letters have small ones", Calls.read(new MailQueries(), "[ { @ ` ^ ~"), 6);
        Calls.due("4: bytes above 127 have none", Calls.read(new MailQueries(), "\"\u00c9\" \"\u00e9\""), 2);
        Calls.due("4: sizes of the same bytes differ", Calls.read(new MailQueries(), "size:1k size:1024"), 2);
        Calls.due("4: no spaces where none must be", Calls.read(new MailQueries(), "a\"b\"c(d)e\"f\"\"g\"not(h)"), 8);
        Calls.due("4: an operator with a field", Calls.read(new MailQueries(), "from:and to:not"), 2);
        Calls.due("4: operators have small letters", Calls.read(new MailQueries(), "AND Or xOR NOT"), 4);
        Calls.due("4: longer words are no operators", Calls.read(new MailQueries(), "ands nor xora notb"), 4);
        Calls.due("4: tabs", Calls.read(new MailQueries(), "a\tor\tb"), 2);
    }

    private static void faulty(String text, int kind, int place) {
        MailQueries x = new MailQueries();
        Calls.due("5: read() of " + text, Calls.read(x, text), -100);
        Calls.due("5: fault(0) of " + text, x.fault(0), kind);
        Calls.due("5: fault(1) of " + text, x.fault(1), place);
    }

    private static void fault() {
        MailQueries x = Calls.of("a");
        Calls.due("5: fault(0)", x.fault(0), 0);
        Calls.due("5: fault(1)", x.fault(1), NONE);
        Calls.due("5: a fault", Calls.read(x, "a or"), -100);
        Calls.due("5: fault(2)", x.fault(2), NONE);
        Calls.due("5: fault(-1)", x.fault(-1), NONE);
        Calls.due("5: without again", Calls.read(x, "a"), 1);
        Calls.due("5: fault(0) without again", x.fault(0), 0);
        Calls.due("5: fault(1) without again", x.fault(1), NONE);
        faulty("or a", 1, 0);
        faulty("  and", 1, 2);
        faulty("a or or b", 1, 5);
        faulty("a xor and", 1, 6);
        faulty("not", 1, 3);
        faulty("not or a", 1, 4);
        faulty("a or  ", 1, 6);
        faulty("()", 1, 1);
        faulty("(or a)", 1, 1);
        faulty("(a or)", 1, 5);
        faulty("a ) b", 1, 2);
        faulty("(a))", 1, 3);
        faulty("((a)", 1, 4);
        faulty("(a \t", 1, 4);
        faulty("a\nb", 2, 1);
        faulty("a \u007f", 2, 2);
        faulty("\u0000", 2, 0);
        faulty(":a", 2, 0);
        faulty("a or :", 2, 5);
        faulty("\"a\":b", 2, 3);
        faulty("a or or \u00e9", 1, 5);
        faulty("a or \u00e9", 2, 5);
        faulty("a \"\" b", 2, 2);
        faulty("a \"b c", 2, 2);
        faulty("\"a\" \"", 2, 4);
    }

    private static void faultsOfFields() {
        faulty("From:a", 2, 4);
        faulty("x-from:a", 2, 6);
        faulty("from:to:a", 2, 7);
        faulty("from:a:b", 2, 6);
        faulty("from::a", 1, 5);
        faulty("from:", 1, 5);
        faulty("from:(a)", 1, 5);
        faulty("from:)", 1, 5);
        faulty("from:\ta", 1, 5);
        faulty("from:\u00e9", 1, 5);
        faulty("from:\"\"", 2, 5);
        faulty("from:\"a", 2, 5);
        faulty("who:", 3, 0);
        faulty("who: a", 3, 0);
        faulty("a who:\"", 3, 2);
        faulty("fromx:a", 3, 0);
        faulty("fro:a", 3, 0);
        faulty("not:a", 3, 0);
        faulty("a or and:b", 3, 5);
    }

    private static void faultsOfTexts() {
        faulty("tag:\"a\"", 4, 4);
        faulty("tag:\"\"", 2, 4);
        faulty("tag:a_b", 4, 4);
        faulty("tag:a*", 4, 4);
        faulty("tag:abcdefghijklmnopq", 4, 4);
        faulty("is:Unread", 4, 3);
        faulty("is:unreads", 4, 3);
        faulty("is:\"unread\"", 4, 3);
        faulty("date:\"20200101\"", 4, 5);
        faulty("size:\"1\"", 4, 5);
        faulty("type:a*", 4, 5);
        faulty("id:*", 4, 3);
        faulty("from:*", 4, 5);
        faulty("body:*a*", 4, 5);
        faulty("\"a*\"", 4, 0);
        faulty("subject:\"a * b\"", 4, 8);
        Calls.due("5: stars", Calls.read(new MailQueries(),
                "a* *b from:c* to:d*e subject:f* body:g* path:h* attachment:*.pdf"), 8);
        Calls.due("5: tags", Calls.read(new MailQueries(), "tag:abcdefghijklmnop tag:- tag:0-z"), 3);
        Calls.due("5: states", Calls.read(new MailQueries(), "is:unread is:flagged is:replied is:encrypted"), 4);
        Calls.due("5: others", Calls.read(new MailQueries(), "id:<a@b> type:\"x y\" path:/a/b attachment:\"(:)\""), 4);
    }

    private static void faultsOfLimits() {
        String forty = "a ".repeat(40);
        Calls.due("5: 40 atoms", Calls.read(new MailQueries(), forty), 1);
        faulty(forty + "a", 5, 80);
        faulty(forty + "or from:a", 5, 83);
        faulty(forty + "who:a", 3, 80);
        faulty(forty + "**", 4, 80);
        faulty(forty + "\"", 2, 80);
        faulty(forty + "tag:A", 5, 80);
        faulty(forty + "tag:", 5, 80);
        faulty(forty + "tag:\"", 5, 80);
        faulty(forty + "or", 1, 82);
        faulty(forty + ")", 1, 80);
        String twenty = "(".repeat(20);
        Calls.due("5: 20 (", Calls.read(new MailQueries(), twenty + "a" + ")".repeat(20)), 1);
        faulty(twenty + "(a", 5, 20);
        faulty("a" + twenty + " (", 5, 22);
        faulty(twenty + ")", 1, 20);
        Calls.due("5: 40 ( behind one another", Calls.read(new MailQueries(), "(a)".repeat(40)), 1);
        Calls.due("5: 149 not", Calls.read(new MailQueries(), "not ".repeat(149) + "a"), 1);
        faulty("not ".repeat(150), 1, 600);
    }

    private static void atom() {
        MailQueries x = Calls.of("subject:\"Hello World\" or foo* tag:x or SUBJECT or subject:\"hello world\" FOO*");
        int[][] due = {{3, 1, 11, NONE, 2}, {0, 0, 4, 3, 2}, {5, 0, 1, NONE, 1}, {0, 0, 7, NONE, 1}};
        for (int a = 0; a < due.length; a++) {
            for (int what = 0; what < 5; what++) {
                Calls.due("6: atom(" + a + ", " + what + ")", x.atom(a, what), due[a][what]);
            }
        }
        for (int what = -1; what <= 5; what++) {
            Calls.due("6: atom(4, " + what + ")", x.atom(4, what), NONE);
            Calls.due("6: atom(-1, " + what + ")", x.atom(-1, what), NONE);
            Calls.due("6: atom(MAX, " + what + ")", x.atom(Integer.MAX_VALUE, what), NONE);
        }
        Calls.due("6: atom(0, 5)", x.atom(0, 5), NONE);
        Calls.due("6: atom(0, -1)", x.atom(0, -1), NONE);
        MailQueries y = Calls.of("a from:*a to:a subject:a body:a tag:a id:a path:a type:a attachment:a is:unread "
                + "date:1d size:1");
        for (int field = 0; field <= 12; field++) {
            Calls.due("6: the field " + field, y.atom(field, 0), field);
        }
        Calls.due("6: a * at the beginning", y.atom(1, 3), 0);
    }

    private static void atomByte() {
        MailQueries x = Calls.of("from:\"A: (b\" AbC aBc from:\"a: (B\"");
        Calls.due("7: the phrase", Calls.atomText(x, 0), "A: (b");
        Calls.due("7: as it first came", Calls.atomText(x, 1), "AbC");
        Calls.due("7: atomByte(0, 5)", x.atomByte(0, 5), NONE);
        Calls.due("7: atomByte(0, -1)", x.atomByte(0, -1), NONE);
        Calls.due("7: atomByte(0, MAX)", x.atomByte(0, Integer.MAX_VALUE), NONE);
        Calls.due("7: atomByte(2, 0)", x.atomByte(2, 0), NONE);
        Calls.due("7: atomByte(-1, 0)", x.atomByte(-1, 0), NONE);
    }

    private static void ranges(String text, int least, int greatest) {
        MailQueries x = Calls.of(text);
        Calls.due("8: range(0, 0) of " + text, x.range(0, 0), least);
        Calls.due("8: range(0, 1) of " + text, x.range(0, 1), greatest);
    }

    private static void rangeOfDate() {
        ranges("date:19700101", 0, 0);
        ranges("date:19700102..19710101", 1, 365);
        ranges("date:20000229..20000301", 11016, 11017);
        ranges("date:29991231", (int) java.time.LocalDate.of(2999, 12, 31).toEpochDay(),
                (int) java.time.LocalDate.of(2999, 12, 31).toEpochDay());
        ranges("date:1d", -1, -1);
        ranges("date:2w..1w", -14, -7);
        ranges("date:1w..2w", -7, -14);
        ranges("date:3m..", -90, OPEN_GREATEST);
        ranges("date:..999y", OPEN_LEAST, -364635);
        ranges("date:20200101..007d", 18262, -7);
        for (java.time.LocalDate day = java.time.LocalDate.of(1970, 1, 1); day.getYear() < 3000; day = day.plusDays(97)) {
            String text = "date:" + day.toString().replace("-", "");
            ranges(text, (int) day.toEpochDay(), (int) day.toEpochDay());
        }
        String[] wrong = {"20210229", "20200230", "21000229", "20200431", "20201301", "20200001", "20200100", "19691231",
            "30000101", "2020010", "202001011", "2020010a", "0d", "000w", "1000d", "0001d", "1", "d", "1h", "1D",
            "..", "1d...2d", "1d.2d", "1d.", ".1d", "1d..2d..", "...1d", "1d..x", "x..1d", "*", "1d*"};
        for (String text : wrong) {
            faulty("date:" + text, 4, 5);
        }
    }

    private static void rangeOfSize() {
        ranges("size:0", 0, 0);
        ranges("size:0000001..9999999", 1, 9999999);
        ranges("size:1k..1m", 1024, 1048576);
        ranges("size:2047m..2048m", 2146435072, OPEN_GREATEST);
        ranges("size:2097151k..2097152k", 2147482624, OPEN_GREATEST);
        ranges("size:9999999m", OPEN_GREATEST, OPEN_GREATEST);
        ranges("size:10k..", 10240, OPEN_GREATEST);
        ranges("size:..10k", OPEN_LEAST, 10240);
        ranges("size:5..1", 5, 1);
        String[] wrong = {"12345678", "k", "1K", "1kk", "1g", "..", "-1", "1...2", "1..2..3", "1.", ".1", "k..1",
            "..k", "1.5k"};
        for (String text : wrong) {
            faulty("size:" + text, 4, 5);
        }
        MailQueries x = Calls.of("size:5 from:5 5");
        Calls.due("8: range(0, 2)", x.range(0, 2), 0);
        Calls.due("8: range(0, -1)", x.range(0, -1), 0);
        Calls.due("8: range(1, 0)", x.range(1, 0), 0);
        Calls.due("8: range(2, 1)", x.range(2, 1), 0);
        Calls.due("8: range(3, 0)", x.range(3, 0), 0);
        Calls.due("8: range(-1, 0)", x.range(-1, 0), 0);
        Calls.due("8: the next query", Calls.read(x, "from:5"), 1);
        Calls.due("8: range(0, 0) of it", x.range(0, 0), 0);
    }

    private static void trees(String text, String tree) {
        Calls.due("9: the tree of " + text, Calls.tree(Calls.of(text)), tree);
    }

    private static void tree() {
        trees("", "");
        trees("a", "0");
        trees("((a))", "0");
        trees("not a", "not 0");
        trees("a and b c", "and and 0 1 2");
        trees("a (b c)", "and 0 and 1 2");
        trees("(a b) c", "and and 0 1 2");
        trees("a or b xor c d", "or 0 xor 1 and 2 3");
        trees("a b xor c or d", "or xor and 0 1 2 3");
        trees("a or b or c xor d xor e", "or or 0 1 xor xor 2 3 4");
        trees("not a b", "and not 0 1");
        trees("not (a b)", "not and 0 1");
        trees("a not not (b or not c) A", "and and 0 not not or 1 not 2 0");
        trees("(a or b)(c xor d)not(e)", "and and or 0 1 xor 2 3 not 4");
        MailQueries x = Calls.of("a b");
        Calls.due("9: tree(3)", x.tree(3), NONE);
        Calls.due("9: tree(-1)", x.tree(-1), NONE);
        Calls.due("9: tree(MAX)", x.tree(Integer.MAX_VALUE), NONE);
        Calls.due("9: tree(MIN)", x.tree(Integer.MIN_VALUE), NONE);
    }

    private static void prints(String text, String printed) {
        MailQueries x = Calls.of(text);
        Calls.due("10: print() of " + text, Calls.printed(x, x.print()), printed);
    }

    private static void print() {
        prints("", "");
        prints("  ", "");
        prints("\ta ", "a");
        prints("((a))", "a");
        prints("a and b", "a b");
        prints("(a and b) and c", "a b c");
        prints("a and (b and c)", "a (b c)");
        prints("a or (b and c)", "a or b c");
        prints("(a or b) and c", "(a or b) c");
        prints("(a or b) or c", "a or b or c");
        prints("a xor (b xor c)", "a xor (b xor c)");
        prints("(a xor b) or (c xor d)", "a xor b or c xor d");
        prints("(a or b) xor (c or d)", "(a or b) xor (c or d)");
        prints("not (a)", "not a");
        prints("not (not (a and b))", "not not (a b)");
        prints("(not a)(not b)", "not a not b");
        prints("( ( a or b ) and c ) or d", "(a or b) c or d");
        prints("((a or b) xor c) d", "((a or b) xor c) d");
        prints("a\"b\"c(d)", "a \"b\" c d");
        prints("From or FROM or from:X or from:x", "From or From or from:X or from:X");
        prints("\"A b\" subject:\"q(\" \"a B\"", "\"A b\" subject:\"q(\" \"A b\"");
        prints("date:1d..2d and is:unread", "date:1d..2d is:unread");
    }

    private static void printed() {
        MailQueries x = Calls.of("a and b");
        Calls.due("11: ahead of print()", x.printed(0), NONE);
        Calls.due("11: print()", x.print(), 3);
        Calls.due("11: printed(2)", x.printed(2), 'b');
        Calls.due("11: printed(3)", x.printed(3), NONE);
        Calls.due("11: printed(-1)", x.printed(-1), NONE);
        Calls.due("11: printed(MAX)", x.printed(Integer.MAX_VALUE), NONE);
        Calls.due("11: the next query", Calls.read(x, "\"\u00ff\""), 1);
        Calls.due("11: what was printed stays", x.printed(0), 'a');
        Calls.due("11: print() again", x.print(), 3);
        Calls.due("11: printed(1) of it", x.printed(1), 255);
        Calls.due("11: nothing", Calls.read(x, ""), 0);
        Calls.due("11: print() of nothing", x.print(), 0);
        Calls.due("11: printed(0) of nothing", x.printed(0), NONE);
    }

    private static void normals(String text, int count, String rows) {
        MailQueries x = Calls.of(text);
        Calls.due("12: normal() of " + text, x.normal(), count);
        Calls.due("12: the rows of " + text, Calls.rows(x, count), rows);
    }

    private static void normal() {
        normals("", 1, "");
        normals("a", 1, "a");
        normals("not a", 1, "!a");
        normals("not not a", 1, "a");
        normals("a or b or c", 3, "a b c");
        normals("(a or b)(c or d)", 4, "ac ad bc bd");
        normals("not (a b)", 2, "!a !b");
        normals("not (a or not b)", 1, "!ab");
        normals("a xor b", 2, "a!b !ab");
        normals("not (a xor b)", 2, "ab !a!b");
        normals("a xor not b", 2, "ab !a!b");
        normals("a xor b xor c", 4, "a!b!c !ab!c abc !a!bc");
        normals("not (a xor (b or c))", 3, "ab ac !a!b!c");
        normals("a xor a", 0, "");
        normals("a not a", 0, "");
        normals("a or not a", 2, "a !a");
        normals("(a b) or a or A", 1, "a");
        normals("a b or c or b", 2, "c b");
        normals("a b or b a", 1, "ab");
        normals("(a or b)(a or b)", 2, "a b");
        normals("(b or a) (c or b)", 2, "a bc");
    }

    private static String joined(String sign, int from, int to) {
        StringBuilder all = new StringBuilder();
        for (int i = from; i < to; i++) {
            all.append(i > from ? sign : "").append((char) ('A' + i / 10)).append(i % 10);
        }
        return all.toString();
    }

    private static void normalTooMany() {
        MailQueries x = Calls.of("(" + joined(" or ", 0, 10) + ")(" + joined(" or ", 10, 30) + ")");
        Calls.due("12: 200 rows", x.normal(), 200);
        Calls.due("12: the last row", x.row(199, false), 1L << 9 | 1L << 29);
        Calls.read(x, "(" + joined(" or ", 0, 3) + ")(" + joined(" or ", 3, 35) + ")(" + joined(" or ", 35, 38) + ")");
        Calls.due("12: 288 rows", x.normal(), NONE);
        Calls.due("13: the latest NORMAL stays", x.row(199, false), 1L << 9 | 1L << 29);
        Calls.read(x, "(" + joined(" or ", 0, 15) + ")(" + joined(" or ", 0, 15) + ")");
        Calls.due("12: 225 rows ahead of leaving out", x.normal(), NONE);
        Calls.read(x, "(" + joined(" or ", 0, 14) + ")(" + joined(" or ", 0, 14) + ")");
        Calls.due("12: 196 rows ahead of leaving out", x.normal(), 14);
        String pairs = "(" + joined(" or ", 0, 14) + ")(" + joined(" or ", 14, 28) + ") or ";
        Calls.read(x, pairs + joined(" or ", 28, 32));
        Calls.due("12: 200 rows of or", x.normal(), 200);
        Calls.read(x, pairs + joined(" or ", 28, 33));
        Calls.due("12: 201 rows of or", x.normal(), NONE);
        Calls.read(x, "(" + pairs + joined(" or ", 28, 30) + ") xor a");
        Calls.due("12: 200 rows of xor", x.normal(), 200);
        Calls.read(x, "(" + pairs + joined(" or ", 28, 31) + ") xor a");
        Calls.due("12: 201 rows of xor", x.normal(), NONE);
        String fifteen = "(" + joined(" or ", 0, 15) + ")";
        Calls.read(x, fifteen + "(not " + joined(" or not ", 0, 10) + " or " + joined(" or ", 15, 19) + ")");
        Calls.due("12: 200 rows of and", x.normal(), 200);
        Calls.read(x, fifteen + "(not " + joined(" or not ", 0, 9) + " or " + joined(" or ", 15, 20) + ")");
        Calls.due("12: 201 rows of and", x.normal(), NONE);
        Calls.read(x, ("(" + joined(" xor ", 0, 8) + ")").repeat(5));
        Calls.due("12: 128 rows five times", x.normal(), 128);
        Calls.read(x, joined(" xor ", 0, 8));
        Calls.due("12: 128 rows", x.normal(), 128);
        Calls.read(x, joined(" xor ", 0, 9));
        Calls.due("12: 256 rows", x.normal(), NONE);
        Calls.read(x, "not (" + joined(" or ", 0, 40) + ")");
        Calls.due("12: one row of 40 atoms", x.normal(), 1);
        Calls.due("12: its bits", x.row(0, true), (1L << 40) - 1);
        Calls.read(x, "a" + " xor a".repeat(39));
        Calls.due("12: a xor chain of one atom", x.normal(), 0);
        // Only the way in which nobody asks has 256 rows.
        Calls.read(x, "(" + joined(" ", 0, 4) + ") or (" + joined(" ", 4, 8) + ") or (" + joined(" ", 8, 12)
                + ") or (" + joined(" ", 12, 16) + ")");
        Calls.due("12: 4 rows", x.normal(), 4);
        Calls.read(x, "not ((" + joined(" ", 0, 4) + ") or (" + joined(" ", 4, 8) + ") or (" + joined(" ", 8, 12)
                + ") or (" + joined(" ", 12, 16) + "))");
        Calls.due("12: 256 rows of not", x.normal(), NONE);
    }

    private static void row() {
        MailQueries x = Calls.of("a not b or c");
        Calls.due("13: ahead of normal()", x.row(0, false), 0);
        Calls.due("13: normal()", x.normal(), 2);
        Calls.due("13: row(0, false)", x.row(0, false), 1);
        Calls.due("13: row(0, true)", x.row(0, true), 2);
        Calls.due("13: row(1, false)", x.row(1, false), 4);
        Calls.due("13: row(1, true)", x.row(1, true), 0);
        Calls.due("13: row(2, false)", x.row(2, false), 0);
        Calls.due("13: row(-1, false)", x.row(-1, false), 0);
        Calls.due("13: row(MAX, true)", x.row(Integer.MAX_VALUE, true), 0);
        Calls.due("13: row(200, true)", x.row(200, true), 0);
        Calls.due("13: the next query", Calls.read(x, "d"), 1);
        Calls.due("13: the latest rows stay", x.row(1, false), 4);
        Calls.due("13: normal() of one row", x.normal(), 1);
        Calls.due("13: the second row is gone", x.row(1, false), 0);
    }

    private static void ask() {
        MailQueries x = Calls.of("a (b or not c) xor d");
        for (int atoms = 0; atoms < 16; atoms++) {
            boolean a = (atoms & 1) != 0;
            boolean b = (atoms & 2) != 0;
            boolean c = (atoms & 4) != 0;
            boolean d = (atoms & 8) != 0;
            Calls.due("14: ask(" + atoms + ")", x.ask(atoms), (a && (b || !c)) != d);
            Calls.due("14: bits of no atom", x.ask(atoms | -16L), x.ask(atoms));
        }
        MailQueries y = Calls.of(joined(" ", 0, 40));
        Calls.due("14: all of 40", y.ask((1L << 40) - 1), true);
        Calls.due("14: 39 of 40", y.ask((1L << 39) - 1), false);
    }

    private static void ways() {
        Calls.due("15: a", Calls.of("a").ways(), 1);
        Calls.due("15: a or not a", Calls.of("a or not a").ways(), 2);
        Calls.due("15: a not a", Calls.of("a not a").ways(), 0);
        for (int n = 1; n <= 12; n++) {
            Calls.due("15: or of " + n, Calls.of(joined(" or ", 0, n)).ways(), (1 << n) - 1);
            Calls.due("15: and of " + n, Calls.of(joined(" ", 0, n)).ways(), 1);
            Calls.due("15: xor of " + n, Calls.of(joined(" xor ", 0, n)).ways(), 1 << (n - 1));
        }
        Calls.due("15: 13", Calls.of(joined(" or ", 0, 13)).ways(), NONE);
        Calls.due("15: 12 different ones of 24", Calls.of(joined(" ", 0, 12) + " " + joined(" ", 0, 12)).ways(), 1);
    }
}
