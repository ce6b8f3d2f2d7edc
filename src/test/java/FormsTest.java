/** The document's sentences about ALIKE, TREE, PRINTED and NORMAL, each with its boundary cases. */
public final class FormsTest {
    private static final int NONE = MailQueries.NONE;

    public static void main(String[] args) {
        alikeFields();
        alikeLetters();
        alikePhrases();
        numbers();
        treeOrder();
        treeWithoutSigns();
        treeSizes();
        printedSigns();
        printedSpaces();
        printedLetters();
        printedNothing();
        normalOfAtoms();
        normalOfOr();
        normalOfAnd();
        normalOfXor();
        normalOfNot();
        normalLeavesOut();
        normalLeavesOutLater();
        normalLeavesOutEachTime();
        normalUpTo200();
        normalOnlyAsAsked();
        Calls.finish();
    }

    private static void alikeFields() {
        Calls.sentence("ALIKE are ATOMS of the same FIELD and the same TEXT");
        Calls.reads("a a", 1);
        Calls.reads("a ab b", 3);
        Calls.reads("ab ac bb", 3);
        Calls.reads("a from:a to:a subject:a body:a tag:a id:a path:a type:a attachment:a", 10);
        Calls.reads("from:a from:a from:b", 2);
        Calls.reads("size:1k size:1024 size:01k", 3);
        Calls.reads("date:7d date:1w date:007d", 3);
        Calls.reads("a* a a*", 2);
        Calls.reads("a* *a", 2);
    }

    private static void alikeLetters() {
        Calls.sentence("ALIKE .. (letters small ..)");
        Calls.reads("abC ABc aBC", 1);
        Calls.reads("az AZ aZ Az", 1);
        Calls.reads("from:Ab from:aB", 1);
        Calls.reads("\"A b\" \"a B\"", 1);
        Calls.reads("[ { @ ` ^ ~ ] }", 8);
        Calls.reads("\"\u00c9\" \"\u00e9\" \"\u00c0\" \"\u00e0\"", 4);
        for (int b = 33; b < 127; b++) {
            if (b == '*' || "()\":".indexOf(b) >= 0) {
                continue;
            }
            boolean isLetter = b >= 'A' && b <= 'Z' || b >= 'a' && b <= 'z';
            int other = b ^ 32;
            if (other >= 33 && other < 127 && other != '*' && "()\":".indexOf(other) < 0) {
                Calls.reads((char) b + " " + (char) other, isLetter ? 1 : 2);
            }
        }
    }

    private static void alikePhrases() {
        Calls.sentence("ALIKE .. (.. a PHRASE and other bytes are not alike)");
        Calls.reads("ab \"ab\" ab \"ab\"", 2);
        Calls.reads("from:\"a\" from:a", 2);
        Calls.reads("\"a\" \"a \" \" a\"", 3);
    }

    private static void numbers() {
        Calls.sentence("Different ATOMS are numbered from 0 on, as they first come");
        Calls.trees("b a B c A", "and and and and 0 1 0 2 1");
        Calls.trees("(c or b) xor a b", "xor or 0 1 and 2 1");
        MailQueries x = Calls.of("c or b or a or B");
        Calls.due("the first atom", Calls.atomText(x, 0), "c");
        Calls.due("the second atom", Calls.atomText(x, 1), "b");
        Calls.due("the third atom", Calls.atomText(x, 2), "a");
        Calls.due("no fourth atom", x.atom(3, 0), NONE);
        MailQueries y = Calls.of(Calls.joined(" ", 0, 40));
        Calls.due("the last of 40", Calls.atomText(y, 39), "D9");
        Calls.due("none behind 40", y.atom(40, 0), NONE);
        Calls.due("the last entry of 40", y.tree(78), 39);
        Calls.due("none behind the last entry of 40", y.tree(79), NONE);
    }

    private static void treeOrder() {
        Calls.sentence("TREE: .. not x: not, x; x and y and z: two and ahead, x, y, z; likewise or, xor");
        Calls.trees("", "");
        Calls.trees("a", "0");
        Calls.trees("not a", "not 0");
        Calls.trees("not not a", "not not 0");
        Calls.trees("a and b and c", "and and 0 1 2");
        Calls.trees("a b c d", "and and and 0 1 2 3");
        Calls.trees("a or b or c", "or or 0 1 2");
        Calls.trees("a xor b xor c", "xor xor 0 1 2");
        Calls.trees("a or b xor c d", "or 0 xor 1 and 2 3");
        Calls.trees("a b xor c or d", "or xor and 0 1 2 3");
        Calls.trees("a or b or c xor d xor e f g", "or or 0 1 xor xor 2 3 and and 4 5 6");
        Calls.trees("a or not b c xor d or e", "or or 0 xor and not 1 2 3 4");
    }

    private static void treeWithoutSigns() {
        Calls.sentence("TREE: .. ( ) makes nothing");
        Calls.trees("((a))", "0");
        Calls.trees("(a b) c", "and and 0 1 2");
        Calls.trees("a (b c)", "and 0 and 1 2");
        Calls.trees("a or (b or c) or d", "or or 0 or 1 2 3");
        Calls.trees("(a or b)(c xor d)not(e)", "and and or 0 1 xor 2 3 not 4");
        Calls.trees("((a or b) c xor d) or (e)", "or xor and or 0 1 2 3 4");
    }

    private static void treeSizes() {
        Calls.sentence("TREE: of the ATOMS' numbers and signs (the largest ones)");
        MailQueries x = Calls.of("not ".repeat(149) + "a");
        Calls.due("the last not of 149", x.tree(148), -2);
        Calls.due("the atom behind 149 not", x.tree(149), 0);
        Calls.due("nothing behind it", x.tree(150), NONE);
        Calls.due("ask(0) of 149 not", x.ask(0), true);
        Calls.due("ask(1) of 149 not", x.ask(1), false);
        Calls.due("normal() of 149 not", x.normal(), 1);
        Calls.due("row(0, true) of 149 not", x.row(0, true), 1);
        // The most entries that 600 bytes can have: 40 atoms, 39 and, 130 not.
        String most = "not ".repeat(90) + "not\"a\"".repeat(40);
        MailQueries y = Calls.of(most);
        Calls.due("the length of the text", most.length(), 600);
        Calls.due("the last and", y.tree(38), -3);
        Calls.due("the first not", y.tree(39), -2);
        Calls.due("the last not", y.tree(207), -2);
        Calls.due("the last entry", y.tree(208), 0);
        Calls.due("nothing behind the last entry", y.tree(209), NONE);
        Calls.due("print() of it", y.print(), 4 * 130 + 4 * 40 - 1);
        Calls.due("ask(0) of it", y.ask(0), true);
        Calls.due("ask(1) of it", y.ask(1), false);
        Calls.due("normal() of it", y.normal(), 1);
        Calls.due("row(0, true) of it", y.row(0, true), 1);
    }

    private static void printedSigns() {
        Calls.sentence("PRINTED: the QUERY with ( ) only where without them the TREE would be another");
        Calls.prints("((a))", "a");
        Calls.prints("(a and b) and c", "a b c");
        Calls.prints("a and (b and c)", "a (b c)");
        Calls.prints("(a or b) or c", "a or b or c");
        Calls.prints("a or (b or c)", "a or (b or c)");
        Calls.prints("(a xor b) xor c", "a xor b xor c");
        Calls.prints("a xor (b xor c)", "a xor (b xor c)");
        Calls.prints("a or (b and c)", "a or b c");
        Calls.prints("(a and b) or c", "a b or c");
        Calls.prints("a or (b xor c)", "a or b xor c");
        Calls.prints("(a xor b) or (c xor d)", "a xor b or c xor d");
        Calls.prints("(a or b) xor (c or d)", "(a or b) xor (c or d)");
        Calls.prints("(a b) xor (c d)", "a b xor c d");
        Calls.prints("(a or b) and c", "(a or b) c");
        Calls.prints("a and (b or c)", "a (b or c)");
        Calls.prints("(a xor b) and (c xor d)", "(a xor b) (c xor d)");
        Calls.prints("not (a)", "not a");
        Calls.prints("not (not a)", "not not a");
        Calls.prints("(not a) b", "not a b");
        Calls.prints("a (not b)", "a not b");
        Calls.prints("not (a b)", "not (a b)");
        Calls.prints("not (a or b)", "not (a or b)");
        Calls.prints("not (a xor b)", "not (a xor b)");
        Calls.prints("((a or b) xor c) d", "((a or b) xor c) d");
        Calls.prints("a (b (c (d e)))", "a (b (c (d e)))");
        String deep = "(a or b) c ".repeat(2);
        Calls.prints("(".repeat(18) + deep + ")".repeat(18), "(a or b) c (a or b) c");
        Calls.prints("a(b or ".repeat(19) + "c" + ")".repeat(19), "a (b or ".repeat(19) + "c" + ")".repeat(19));
    }

    private static void printedSpaces() {
        Calls.sentence("PRINTED: .. one space between words but none behind ( and ahead of ), a space for and");
        Calls.prints(" \t a \t\t b  ", "a b");
        Calls.prints("a and b", "a b");
        Calls.prints("a\"b\"c", "a \"b\" c");
        Calls.prints("\"a\"\"b\"", "\"a\" \"b\"");
        Calls.prints("( a or b )and( c or d )", "(a or b) (c or d)");
        Calls.prints("not(a or b)", "not (a or b)");
        Calls.prints("a(not(b c))", "a not (b c)");
        Calls.prints("a xor(b or( c xor d ))", "a xor (b or c xor d)");
        Calls.prints("a and((b or c)xor d)", "a ((b or c) xor d)");
        // The longest: forty phrases with nothing between them get a space each.
        String most = "\"0123456789ab\"".repeat(40);
        MailQueries x = Calls.of(most);
        Calls.due("print() of forty phrases", x.print(), 599);
        Calls.due("the first space", x.printed(14), ' ');
        Calls.due("the last byte", x.printed(598), '"');
        Calls.due("none behind", x.printed(599), NONE);
        String full = "\"0123456789abc\"".repeat(39) + "\"0123456789012\"";
        MailQueries y = Calls.of(full);
        Calls.due("print() of 600 bytes and 39 spaces", y.print(), 639);
        Calls.due("its last byte", y.printed(638), '"');
        Calls.due("none behind it", y.printed(639), NONE);
    }

    private static void printedLetters() {
        Calls.sentence("PRINTED: .. letters of FIELDS and TEXTS as they first came");
        Calls.prints("From or FROM or from:X or from:x", "From or From or from:X or from:X");
        Calls.prints("\"A b\" subject:\"q(\" \"a B\"", "\"A b\" subject:\"q(\" \"A b\"");
        Calls.prints("aB \"aB\" AB \"AB\"", "aB \"aB\" aB \"aB\"");
        Calls.prints("\"\u00c9\" \"\u00e9\"", "\"\u00c9\" \"\u00e9\"");
        Calls.prints("from:a to:a subject:a body:a tag:a id:a path:a", "from:a to:a subject:a body:a tag:a id:a path:a");
        Calls.prints("type:a attachment:*a is:unread date:1d.. size:..1k",
                "type:a attachment:*a is:unread date:1d.. size:..1k");
    }

    private static void printedNothing() {
        Calls.sentence("PRINTED: .. all of a QUERY of nothing is nothing");
        Calls.prints("", "");
        Calls.prints(" \t", "");
    }

    private static void normalOfAtoms() {
        Calls.sentence("NORMAL: rows of ATOMS, each as it is or not, without xor");
        Calls.normals("a", 1, "a");
        Calls.normals("not a", 1, "!a");
        Calls.normals("not not a", 1, "a");
        Calls.normals("not not not a", 1, "!a");
    }

    private static void normalOfOr() {
        Calls.sentence("NORMAL: .. those of x or y are x's, then y's");
        Calls.normals("a or b", 2, "a b");
        Calls.normals("a or b or c", 3, "a b c");
        Calls.normals("a or not a", 2, "a !a");
        Calls.normals("not b or a (c or not d)", 3, "!a bc b!d");
    }

    private static void normalOfAnd() {
        Calls.sentence("NORMAL: .. of x and y: for each of x's, each of y's, the two together");
        Calls.normals("a b", 1, "ab");
        Calls.normals("(a or b)(c or d)", 4, "ac ad bc bd");
        Calls.normals("(a or b)(c or d)(e or f)", 8, "ace acf ade adf bce bcf bde bdf");
        Calls.sentence("NORMAL: .. unless an ATOM is in it both ways");
        Calls.normals("a not a", 0, "");
        Calls.normals("(a or b)(not a or c)", 3, "ac !ab bc");
        Calls.normals("(a or not b)(b or not a)", 2, "ab !a!b");
        Calls.normals("(a not a) or b", 1, "b");
        Calls.normals("a not a b", 0, "");
    }

    private static void normalOfXor() {
        Calls.sentence("NORMAL: .. x xor y as (x and not y) or (not x and y)");
        Calls.normals("a xor b", 2, "a!b !ab");
        Calls.normals("a xor not b", 2, "ab !a!b");
        Calls.normals("not a xor b", 2, "!a!b ab");
        Calls.normals("a xor a", 0, "");
        Calls.normals("a xor not a", 2, "a !a");
        Calls.normals("a xor b xor c", 4, "a!b!c !ab!c abc !a!bc");
        Calls.normals("a xor (b xor c)", 4, "abc a!b!c !ab!c !a!bc");
        Calls.normals("a xor (b or c)", 3, "a!b!c !ab !ac");
        Calls.normals("a xor b c", 3, "a!b a!c !abc");
    }

    private static void normalOfNot() {
        Calls.sentence("NORMAL: .. not as it must be (not of or: and; of and: or; of xor: (x and y) or (not x and not y))");
        Calls.normals("not (a or b)", 1, "!a!b");
        Calls.normals("not (a or b or not c)", 1, "!a!bc");
        Calls.normals("not (a b)", 2, "!a !b");
        Calls.normals("not (a b not c)", 3, "!a !b c");
        Calls.normals("not (a xor b)", 2, "ab !a!b");
        Calls.normals("not (a xor b xor c)", 4, "a!bc !abc ab!c !a!b!c");
        Calls.normals("not (a xor (b or c))", 3, "ab ac !a!b!c");
        Calls.normals("not not (a or b)", 2, "a b");
        Calls.normals("not (not (a b) or not (c d))", 1, "abcd");
        Calls.normals("not ((a or b)(c or d))", 2, "!a!b !c!d");
    }

    private static void normalLeavesOut() {
        Calls.sentence("A row that has all that is in another one is left out");
        Calls.normals("a b or a", 1, "a");
        Calls.normals("a or a b", 1, "a");
        Calls.normals("a or not a b", 2, "a !ab");
        Calls.normals("a not b or not b", 1, "!b");
        Calls.normals("a b or c or b", 2, "c b");
        Calls.normals("a b or a c or a or b", 2, "a b");
        Calls.normals("(b or a)(c or b)", 2, "a bc");
    }

    private static void normalLeavesOutLater() {
        Calls.sentence("A row .. is left out (of two alike the later one)");
        Calls.normals("a or a", 1, "a");
        Calls.normals("a b or b a", 1, "ab");
        Calls.normals("a b or c or b a", 2, "ab c");
        Calls.normals("a or b or c or a or b", 3, "a b c");
        Calls.normals("(a or b)(a or b)", 2, "a b");
        Calls.normals("not a or b or not a", 2, "!a b");
    }

    private static String either(String x) {
        return "(" + x + ")";
    }

    private static void normalLeavesOutEachTime() {
        Calls.sentence("left out, when all is done, and after each and, or");
        String fourteen = either(Calls.joined(" or ", 0, 14));
        // Each and has 196 rows ahead of leaving out and 14 behind.
        Calls.normalCounts(fourteen + fourteen, 14);
        Calls.normalCounts(either(fourteen + fourteen) + " or (" + Calls.joined(" ", 0, 2) + ")", 14);
        String some = either(Calls.joined(" or ", 0, 5));
        // 5 rows behind each and; 3125 if they were left out when all is done only.
        Calls.normalCounts(some.repeat(5), 5);
        // Each or leaves one row, so that the and has one of 16 * 16.
        String ors = "(a or a b or a c or a d or a e or a f or a g or a h or a i or a j or a k or a l or a m or a n or a o or a p)";
        Calls.normals(ors, 1, "a");
        Calls.normals(ors + "(a or b)", 1, "a");
        // Of not xor: 196 rows, then 9, which would be 205 if none were left out ahead of or.
        String x = either(Calls.joined(" or ", 0, 13) + " or p q r");
        Calls.normalCounts("not (" + x + " xor " + x + ")", 17);
    }

    private static void normalUpTo200() {
        Calls.sentence("More than 200 rows at any time: there is no NORMAL");
        Calls.normalCounts(either(Calls.joined(" or ", 0, 10)) + either(Calls.joined(" or ", 10, 30)), 200);
        Calls.normalCounts(either(Calls.joined(" or ", 0, 3)) + either(Calls.joined(" or ", 3, 35))
                + either(Calls.joined(" or ", 35, 38)), NONE);
        String pairs = either(Calls.joined(" or ", 0, 14)) + either(Calls.joined(" or ", 14, 28)) + " or ";
        Calls.normalCounts(pairs + Calls.joined(" or ", 28, 32), 200);
        Calls.normalCounts(pairs + Calls.joined(" or ", 28, 33), NONE);
        Calls.normalCounts("not not " + either(pairs + Calls.joined(" or ", 28, 32)), 200);
        Calls.normalCounts(either(pairs + Calls.joined(" or ", 28, 30)) + " xor a", 200);
        Calls.normalCounts(either(pairs + Calls.joined(" or ", 28, 31)) + " xor a", NONE);
        Calls.normalCounts("not (" + either(pairs + Calls.joined(" or ", 28, 30)) + " xor a)", 200);
        Calls.normalCounts("not (" + either(pairs + Calls.joined(" or ", 28, 31)) + " xor a)", NONE);
        // Rows that have an atom both ways are none; 15 * 14 less 10, and 15 * 14 less 9.
        String fifteen = either(Calls.joined(" or ", 0, 15));
        Calls.normalCounts(fifteen + "(not " + Calls.joined(" or not ", 0, 10) + " or " + Calls.joined(" or ", 15, 19) + ")",
                200);
        Calls.normalCounts(fifteen + "(not " + Calls.joined(" or not ", 0, 9) + " or " + Calls.joined(" or ", 15, 20) + ")",
                NONE);
        // At any time: 225 rows ahead of leaving out, 15 behind.
        Calls.normalCounts(fifteen + fifteen, NONE);
        // 196 rows and 4 are 144 behind leaving out; with 5 they are too many ahead of it.
        Calls.normalCounts(pairs + either(Calls.joined(" or ", 0, 4)), 144);
        Calls.normalCounts(pairs + either(Calls.joined(" or ", 0, 5)), NONE);
        Calls.normalCounts(Calls.joined(" xor ", 0, 8), 128);
        Calls.normalCounts(Calls.joined(" xor ", 0, 9), NONE);
        Calls.normalCounts(either(Calls.joined(" xor ", 0, 8)).repeat(5), 128);
        Calls.normalCounts("not (" + Calls.joined(" or ", 0, 40) + ")", 1);
        Calls.normalCounts(Calls.joined(" or ", 0, 40), 40);
        Calls.normalCounts("a" + " xor a".repeat(39), 0);
        // All parts wait for one another, each with 64 rows as it is and 64 of not it.
        String seven = either(Calls.joined(" xor ", 0, 7));
        Calls.normalCounts(seven + (" xor " + seven).repeat(3), 0);
        Calls.normalCounts(seven + (" xor " + seven).repeat(4), 64);
        Calls.normalCounts("not " + either(seven + (" xor " + seven).repeat(4)), 64);
        // With 128 of each, two of them make 256 rows, when 1,280 stand in all.
        String eight = either(Calls.joined(" xor ", 0, 8));
        Calls.normalCounts(eight + (" xor " + eight).repeat(4), NONE);
    }

    private static void normalOnlyAsAsked() {
        Calls.sentence("NORMAL: .. not as it must be (what nobody asks for may have more rows)");
        String four = either(Calls.joined(" ", 0, 4)) + " or " + either(Calls.joined(" ", 4, 8)) + " or "
                + either(Calls.joined(" ", 8, 12)) + " or " + either(Calls.joined(" ", 12, 16));
        Calls.normalCounts(four, 4);
        Calls.normalCounts("not not " + either(four), 4);
        Calls.normalCounts("not " + either(four), NONE);
        Calls.normalCounts("a xor " + either(four), NONE);
        String product = either(Calls.joined(" or ", 0, 4)) + either(Calls.joined(" or ", 4, 8))
                + either(Calls.joined(" or ", 8, 12)) + either(Calls.joined(" or ", 12, 16));
        Calls.normalCounts(product, NONE);
        Calls.normalCounts("not " + either(product), 4);
        Calls.normalCounts("not " + either(product + " or a"), 4);
        Calls.normalCounts("a xor " + either(product), NONE);
    }
}
