/** The document's sentences about FAULTS, each with its places, and which one is told of several. */
public final class FaultsTest {
    private static final String FORTY = "a ".repeat(40);
    private static final String TWENTY = "(".repeat(20);

    public static void main(String[] args) {
        misplacedWords();
        misplacedBehindAField();
        misplacedEnd();
        bytesOfNoWord();
        colonsOfNoField();
        phrasesWithoutAnEnd();
        phrasesWithoutAByte();
        unknownFields();
        wrongTexts();
        tooManyAtoms();
        tooManyOpen();
        leftToRight();
        atOnePlaceTheLeast();
        Calls.finish();
    }

    private static void misplacedWords() {
        Calls.sentence("1 what can't stand there (at the word)");
        String[] signs = {"and", "or", "xor", ")"};
        String[] ahead = {"", " \t", "(", "not ", "a or ", "a xor ", "a and ", "(not not "};
        for (String sign : signs) {
            for (String text : ahead) {
                Calls.faulty(text + sign, 1, text.length());
                Calls.faulty(text + sign + " b", 1, text.length());
            }
        }
        Calls.faulty("a)", 1, 1);
        Calls.faulty("a \t ) b", 1, 4);
        Calls.faulty("(a) (b)) (c)", 1, 7);
        Calls.faulty("\"a\")", 1, 3);
        Calls.faulty("from:a)", 1, 6);
    }

    private static void misplacedBehindAField() {
        Calls.sentence("1 .. behind a FIELD's : at what stands just there");
        String[] fields = {"from:", "to:", "tag:", "is:", "date:", "size:", "attachment:"};
        String[] behind = {" ", " a", "\t\"a\"", "(", "(a)", ")", ":", ":a", "\n", "\u00e9", "\u0000", "\u007f"};
        for (String field : fields) {
            for (String text : behind) {
                Calls.faulty(field + text, 1, field.length());
                Calls.faulty("(x or " + field + text, 1, field.length() + 6);
            }
        }
    }

    private static void misplacedEnd() {
        Calls.sentence("1 .. the end: the length");
        String[] texts = {"(", "not", "a or", "a xor", "a and", "a not", "(a", "((a)", "(a or (b)", "from:", "a date:",
            "a or not", TWENTY};
        for (String text : texts) {
            Calls.faulty(text, 1, text.length());
            if (!text.endsWith(":")) {
                Calls.faulty(text + " \t ", 1, text.length() + 3);
            }
        }
        Calls.faulty("a or" + " ".repeat(596), 1, 600);
        Calls.faulty("(" + " ".repeat(598) + "a", 1, 600);
        Calls.faulty("a" + " ".repeat(594) + "from:", 1, 600);
    }

    private static void bytesOfNoWord() {
        Calls.sentence("2 a byte that is in no word");
        for (int b = 0; b < 256; b++) {
            boolean isWord = b >= 33 && b <= 126 || b == ' ' || b == '\t';
            if (!isWord) {
                Calls.faulty((char) b + "a", 2, 0);
                Calls.faulty("a" + (char) b, 2, 1);
                Calls.faulty("a or " + (char) b, 2, 5);
                Calls.faulty("from:a" + (char) b, 2, 6);
                Calls.faulty("\"a\"" + (char) b, 2, 3);
                Calls.faulty("(a)" + (char) b, 2, 3);
                Calls.faulty("not" + (char) b, 2, 3);
                Calls.faulty("from" + (char) b + ":a", 2, 4);
            }
        }
    }

    private static void colonsOfNoField() {
        Calls.sentence("2 .. (also a : that belongs to no FIELD)");
        Calls.faulty(":", 2, 0);
        Calls.faulty(":a", 2, 0);
        Calls.faulty("a or :", 2, 5);
        Calls.faulty("a : b", 2, 2);
        Calls.faulty("(:", 2, 1);
        Calls.faulty("(a):b", 2, 3);
        Calls.faulty("\"a\":b", 2, 3);
        Calls.faulty("\"from\":b", 2, 6);
        Calls.faulty("From:a", 2, 4);
        Calls.faulty("x-from:a", 2, 6);
        Calls.faulty("a1:x", 2, 2);
        Calls.faulty("from:to:a", 2, 7);
        Calls.faulty("from:a:b", 2, 6);
        Calls.faulty("from:\"a\":b", 2, 8);
        Calls.faulty("date:1d:", 2, 7);
    }

    private static void phrasesWithoutAnEnd() {
        Calls.sentence("2 .. a PHRASE without an end .. (at its beginning)");
        Calls.faulty("\"", 2, 0);
        Calls.faulty("\"abc", 2, 0);
        Calls.faulty("a \"b c", 2, 2);
        Calls.faulty("a\"", 2, 1);
        Calls.faulty("\"a\" \"", 2, 4);
        Calls.faulty("\"a\"\"b", 2, 3);
        Calls.faulty("from:\"", 2, 5);
        Calls.faulty("from:\"a)", 2, 5);
        Calls.faulty("(\"a)", 2, 1);
        Calls.faulty("\"" + "x".repeat(599), 2, 0);
        Calls.faulty("x".repeat(599) + "\"", 2, 599);
    }

    private static void phrasesWithoutAByte() {
        Calls.sentence("2 .. a PHRASE .. without a byte (at its beginning)");
        Calls.faulty("\"\"", 2, 0);
        Calls.faulty("a \"\" b", 2, 2);
        Calls.faulty("from:\"\"", 2, 5);
        Calls.faulty("a or from:\"\"b\"", 2, 10);
        Calls.reads("\" \"", 1);
    }

    private static void unknownFields() {
        Calls.sentence("3 a FIELD that there is not (at the ATOM)");
        Calls.faulty("who:x", 3, 0);
        Calls.faulty("  who:x", 3, 2);
        Calls.faulty("a or (who:\"x y\")", 3, 6);
        Calls.faulty("a\"b\"who:x", 3, 4);
        Calls.faulty("fro:a", 3, 0);
        Calls.faulty("fromm:a", 3, 0);
        Calls.faulty("and:a", 3, 0);
        Calls.faulty("not not:a", 3, 4);
        Calls.faulty("x".repeat(598) + ":y", 3, 0);
    }

    private static void wrongTexts() {
        Calls.sentence("4 a TEXT that the FIELD doesn't have (at the TEXT)");
        Calls.faulty("a tag:A", 4, 6);
        Calls.faulty("a is:new", 4, 5);
        Calls.faulty("a or date:0d", 4, 10);
        Calls.faulty("(size:1g", 4, 6);
        Calls.faulty("(id:*", 4, 4);
        Calls.faulty("a or type:\"a*\"", 4, 10);
        Calls.faulty("a or b**", 4, 5);
        Calls.faulty("tag:\"a\"", 4, 4);
    }

    private static void tooManyAtoms() {
        Calls.sentence("5 the 41st ATOM .. (at it)");
        Calls.faulty(FORTY + "a", 5, 80);
        Calls.faulty(FORTY + "\t b", 5, 82);
        Calls.faulty(FORTY + "or from:a", 5, 83);
        Calls.faulty(FORTY + "not \"a\"", 5, 84);
        Calls.faulty(FORTY + "(a", 5, 81);
        Calls.faulty("\"a\"".repeat(41), 5, 120);
        Calls.faulty("(" + FORTY + ") is:unread", 5, 83);
    }

    private static void tooManyOpen() {
        Calls.sentence("5 .. or 21st ( (at it)");
        Calls.faulty(TWENTY + "(", 5, 20);
        Calls.faulty(TWENTY + " (a)", 5, 21);
        Calls.faulty("a" + TWENTY + " (", 5, 22);
        Calls.faulty(TWENTY + "a or (", 5, 25);
        Calls.faulty(TWENTY + "not(", 5, 23);
        Calls.faulty(TWENTY + "a)(b)((c", 5, 26);
    }

    private static void leftToRight() {
        Calls.sentence("The first from left to right");
        Calls.faulty("a or or \u00e9", 1, 5);
        Calls.faulty("\u00e9 or or", 2, 0);
        Calls.faulty("tag:A who:x", 4, 4);
        Calls.faulty("who:x tag:A", 3, 0);
        Calls.faulty("is:new )", 4, 3);
        Calls.faulty(") is:new", 1, 0);
        Calls.faulty("tag:A:", 4, 4);
        Calls.faulty("tag:a: tag:A", 2, 5);
        Calls.faulty("(a \"b", 2, 3);
        Calls.faulty("who:", 3, 0);
        Calls.faulty("who: a", 3, 0);
        Calls.faulty("a who:\"", 3, 2);
        Calls.faulty("who:\"\"", 3, 0);
        Calls.faulty(FORTY + "tag:A", 5, 80);
        Calls.faulty(FORTY + "tag:\"", 5, 80);
        Calls.faulty(FORTY + "from:\"\"", 5, 80);
        Calls.faulty(FORTY + "tag:", 5, 80);
        Calls.faulty(FORTY + ") b", 1, 80);
        Calls.faulty(FORTY + "or or b", 1, 83);
        Calls.faulty(FORTY + "or", 1, 82);
        Calls.faulty(TWENTY + ") (((", 1, 20);
        Calls.faulty(TWENTY + "tag:A(", 4, 24);
    }

    private static void atOnePlaceTheLeast() {
        Calls.sentence("at one place the least");
        Calls.faulty("from::a", 1, 5);
        Calls.faulty("from:\u00e9", 1, 5);
        Calls.faulty("tag:\"\"", 2, 4);
        Calls.faulty("is:\"unread", 2, 3);
        Calls.faulty("id:\"", 2, 3);
        Calls.faulty(FORTY + "who:a", 3, 80);
        Calls.faulty(FORTY + "who:", 3, 80);
        Calls.faulty(FORTY + "**", 4, 80);
        Calls.faulty(FORTY + "*", 4, 80);
        Calls.faulty(FORTY + "\"a*\"", 4, 80);
        Calls.faulty(FORTY + "\"", 2, 80);
        Calls.faulty(FORTY + "\"\"", 2, 80);
    }
}
