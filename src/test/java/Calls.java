import java.nio.charset.StandardCharsets;

/** What the tests share: a text put into an object, answers compared, wrong ones counted. */
final class Calls {
    private static int wrong = 0;

    private Calls() {
    }

    static void due(String what, long got, long want) {
        if (got != want) {
            wrong++;
            System.out.println(what + " answered " + got + ", due is " + want);
        }
    }

    static void due(String what, String got, String want) {
        if (!got.equals(want)) {
            wrong++;
            System.out.println(what + " answered '" + got + "', due is '" + want + "'");
        }
    }

    static void due(String what, boolean got, boolean want) {
        due(what, got ? 1 : 0, want ? 1 : 0);
    }

    static void finish() {
        System.out.println(wrong == 0 ? "all answers are as due" : wrong + " answers are not as due");
        if (wrong != 0) {
            System.exit(1);
        }
    }

    /** Puts a text of characters 0 to 255 behind the text in hand. */
    static void put(MailQueries x, String text) {
        byte[] bytes = text.getBytes(StandardCharsets.ISO_8859_1);
        for (int from = 0; from < bytes.length; from += 20) {
            int[] words = new int[5];
            int count = Math.min(20, bytes.length - from);
            for (int i = 0; i < count; i++) {
                words[i / 4] |= (bytes[from + i] & 255) << (24 - 8 * (i % 4));
            }
            x.feed(words[0], words[1], words[2], words[3], words[4]);
            x.end(count);
        }
    }

    /** What read() answers for a text; -100 if it throws what the document names. */
    static int read(MailQueries x, String text) {
        put(x, text);
        try {
            return x.read();
        } catch (IllegalArgumentException e) {
            return -100;
        }
    }

    static MailQueries of(String text) {
        MailQueries x = new MailQueries();
        if (read(x, text) == -100) {
            wrong++;
            System.out.println("a fault in " + text + ": " + x.fault(0) + " at " + x.fault(1));
        }
        return x;
    }

    static String tree(MailQueries x) {
        StringBuilder all = new StringBuilder();
        for (int k = 0; x.tree(k) != MailQueries.NONE; k++) {
            int entry = x.tree(k);
            all.append(k > 0 ? " " : "");
            all.append(entry >= 0 ? Integer.toString(entry)
                    : entry == -2 ? "not" : entry == -3 ? "and" : entry == -4 ? "or" : entry == -5 ? "xor" : "?");
        }
        return all.toString();
    }

    static String printed(MailQueries x, int length) {
        StringBuilder all = new StringBuilder();
        for (int k = 0; k < length; k++) {
            all.append((char) x.printed(k));
        }
        due("printed behind the end", x.printed(length), MailQueries.NONE);
        return all.toString();
    }

    static String atomText(MailQueries x, int atom) {
        StringBuilder all = new StringBuilder();
        for (int k = 0; x.atomByte(atom, k) != MailQueries.NONE; k++) {
            all.append((char) x.atomByte(atom, k));
        }
        return all.toString();
    }

    /** The rows of the latest NORMAL, as letters with ! ahead of those that are not. */
    static String rows(MailQueries x, int count) {
        StringBuilder all = new StringBuilder();
        for (int k = 0; k < count; k++) {
            all.append(k > 0 ? " " : "");
            for (int atom = 0; atom < 40; atom++) {
                if ((x.row(k, true) >>> atom & 1) != 0) {
                    all.append('!').append((char) ('a' + atom));
                }
                if ((x.row(k, false) >>> atom & 1) != 0) {
                    all.append((char) ('a' + atom));
                }
            }
        }
        due("row behind the last", x.row(count, false) | x.row(count, true), 0);
        return all.toString();
    }
}
