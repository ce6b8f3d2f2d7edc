import java.nio.charset.StandardCharsets;

/** What the tests share: a text put into an object, answers compared, wrong ones counted. */
final class Calls {
    /** What read(x, text) answers if read() throws what the document names. */
    static final int THROWN = -100;

    private static final int NONE = MailQueries.NONE;

    private static int wrong = 0;
    private static String sentence = "";

    private Calls() {
    }

    /** The words of the document that the checks from here on hold to; wrong answers are told with them. */
    static void sentence(String words) {
        sentence = "[" + words + "] ";
    }

    static void due(String what, long got, long want) {
        if (got != want) {
            wrong++;
            System.out.println(sentence + what + " answered " + got + ", due is " + want);
        }
    }

    static void due(String what, String got, String want) {
        if (!got.equals(want)) {
            wrong++;
            System.out.println(sentence + what + " answered '" + got + "', due is '" + want + "'");
        }
    }

    static void due(String what, boolean got, boolean want) {
        due(what, got ? 1 : 0, want ? 1 : 0);
    }

    static void finish() {
        System.out.println(wrong == 0 ? "all answers are as due" : wrong + " answers are not as due");
        if (wrong != 0) {
            System.exit(1);
        }
    }

    /** Puts a text of characters 0 to 255 behind the text in hand. */
    static void put(MailQueries x, String text) {
        byte[] bytes = text.getBytes(StandardCharsets.ISO_8859_1);
        for (int from = 0; from < bytes.length; from += 20) {
            int[] words = new int[5];
            int count = Math.min(20, bytes.length - from);
            for (int i = 0; i < count; i++) {
                words[i / 4] |= (bytes[from + i] & 255) << (24 - 8 * (i % 4));
            }
            x.feed(words[0], words[1], words[2], words[3], words[4]);
            x.end(count);
        }
    }

    /** What read() answers for a text; THROWN if it throws what the document names. */
    static int read(MailQueries x, String text) {
        put(x, text);
        try {
            return x.read();
        } catch (IllegalArgumentException e) {
            return THROWN;
        }
    }

    static MailQueries of(String text) {
        MailQueries x = new MailQueries();
        if (read(x, text) == THROWN) {
            wrong++;
            System.out.println(sentence + "a fault in " + text + ": " + x.fault(0) + " at " + x.fault(1));
        }
        return x;
    }

    /** A text without a fault that has so many different atoms. */
    static void reads(String text, int atoms) {
        MailQueries x = new MailQueries();
        due("read() of " + text, read(x, text), atoms);
        due("fault(0) of " + text, x.fault(0), 0);
        due("fault(1) of " + text, x.fault(1), NONE);
    }

    static void faulty(String text, int kind, int place) {
        MailQueries x = new MailQueries();
        due("read() of " + text, read(x, text), THROWN);
        due("fault(0) of " + text, x.fault(0), kind);
        due("fault(1) of " + text, x.fault(1), place);
    }

    static void trees(String text, String tree) {
        due("the tree of " + text, tree(of(text)), tree);
    }

    static void prints(String text, String printed) {
        MailQueries x = of(text);
        due("print() of " + text, printed(x, x.print()), printed);
    }

    static void ranges(String text, int least, int greatest) {
        MailQueries x = of(text);
        due("range(0, 0) of " + text, x.range(0, 0), least);
        due("range(0, 1) of " + text, x.range(0, 1), greatest);
    }

    static void normals(String text, int count, String rows) {
        MailQueries x = of(text);
        due("normal() of " + text, x.normal(), count);
        due("the rows of " + text, rows(x, count), rows);
    }

    static void normalCounts(String text, int count) {
        due("normal() of " + text, of(text).normal(), count);
    }

    /** The atoms A0, A1, .. A9, B0, .. with these numbers, with a sign between them. */
    static String joined(String sign, int from, int to) {
        StringBuilder all = new StringBuilder();
        for (int i = from; i < to; i++) {
            all.append(i > from ? sign : "").append((char) ('A' + i / 10)).append(i % 10);
        }
        return all.toString();
    }

    static String tree(MailQueries x) {
        StringBuilder all = new StringBuilder();
        for (int k = 0; x.tree(k) != MailQueries.NONE; k++) {
            int entry = x.tree(k);
            all.append(k > 0 ? " " : "");
            all.append(entry >= 0 ? Integer.toString(entry)
                    : entry == -2 ? "not" : entry == -3 ? "and" : entry == -4 ? "or" : entry == -5 ? "xor" : "?");
        }
        return all.toString();
    }

    static String printed(MailQueries x, int length) {
        StringBuilder all = new StringBuilder();
        for (int k = 0; k < length; k++) {
            all.append((char) x.printed(k));
        }
        due("printed behind the end", x.printed(length), MailQueries.NONE);
        return all.toString();
    }

    static String atomText(MailQueries x, int atom) {
        StringBuilder all = new StringBuilder();
        for (int k = 0; x.atomByte(atom, k) != MailQueries.NONE; k++) {
            all.append((char) x.atomByte(atom, k));
        }
        return all.toString();
    }

    /** The rows of the latest NORMAL, as letters with ! ahead of those that are not. */
    static String rows(MailQueries x, int count) {
        StringBuilder all = new StringBuilder();
        for (int k = 0; k < count; k++) {
            all.append(k > 0 ? " " : "");
            for (int atom = 0; atom < 40; atom++) {
                if ((x.row(k, true) >>> atom & 1) != 0) {
                    all.append('!').append((char) ('a' + atom));
                }
                if ((x.row(k, false) >>> atom & 1) != 0) {
                    all.append((char) ('a' + atom));
                }
            }
        }
        due("row behind the last", x.row(count, false) | x.row(count, true), 0);
        return all.toString();
    }
}
