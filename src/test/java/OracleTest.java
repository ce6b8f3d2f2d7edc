import java.util.ArrayList;
import java.util.List;
import java.util.regex.Matcher;
import java.util.regex.Pattern;

/**
 * Texts made by a counter's noise, each read a second time by a plain recursive reader of the test's own:
 * the faults, trees, prints, rows, answers and ways of the class must be those of the test's.
 */
public final class OracleTest {
    private static final String[] FIELDS = {"", "from", "to", "subject", "body", "tag", "id", "path", "type",
        "attachment", "is", "date", "size"};
    private static final String[] PIECES = {"a", "b", "c", "d", "e", "A", "\"a\"", "\"a b\"", "from:a", "from:A",
        "from:\"a\"", "tag:x", "is:unread", "date:1d..", "size:1k", "(", "(", "(", ")", ")", ")", "and", "or", "or",
        "xor", "xor", "not", "not", "not(", " ", "\t", " ", " ", " ", " "};
    private static final String[] BAD_PIECES = {"\"", "\"\"", ":", "who:x", "from:", "tag:X", "is:no", "a*", "a**", "*",
        "\"*\"", "id:a*", "date:0d", "size:..", "\u00e9", "\n", "date:20210229", "from", "to:a:b", "From:a"};

    private static long noise = 12345;

    private static int pick(int below) {
        noise = noise * 6364136223846793005L + 1442695040888963407L;
        return (int) ((noise >>> 33) % below);
    }

    private static final class Fault extends Exception {
        private static final long serialVersionUID = 1L;
        final int kind;
        final int place;

        Fault(int kind, int place) {
            this.kind = kind;
            this.place = place;
        }
    }

    private static final class Node {
        final int entry;
        final Node x;
        final Node y;

        Node(int entry, Node x, Node y) {
            this.entry = entry;
            this.x = x;
            this.y = y;
        }

        String tree() {
            String own = entry >= 0 ? "" + entry : new String[] {"not", "and", "or", "xor"}[-2 - entry];
            return own + (x == null ? "" : " " + x.tree()) + (y == null ? "" : " " + y.tree());
        }

        boolean holds(long atoms) {
            switch (entry) {
                case -2: return !x.holds(atoms);
                case -3: return x.holds(atoms) && y.holds(atoms);
                case -4: return x.holds(atoms) || y.holds(atoms);
                case -5: return x.holds(atoms) != y.holds(atoms);
                default: return (atoms >>> entry & 1) != 0;
            }
        }

        /** The rows, each {as they are, not}, or null for too many; found by the document's words. */
        List<long[]> rows(boolean turned) {
            if (entry >= 0) {
                List<long[]> one = new ArrayList<>();
                one.add(turned ? new long[] {0, 1L << entry} : new long[] {1L << entry, 0});
                return one;
            }
            if (entry == -2) {
                return x.rows(!turned);
            }
            if (entry == -5) {
                return or(and(x.rows(false), y.rows(!turned)), and(x.rows(true), y.rows(turned)));
            }
            return (entry == -4) != turned ? or(x.rows(turned), y.rows(turned)) : and(x.rows(turned), y.rows(turned));
        }

        private static List<long[]> or(List<long[]> x, List<long[]> y) {
            if (x == null || y == null) {
                return null;
            }
            List<long[]> all = new ArrayList<>(x);
            all.addAll(y);
            return least(all);
        }

        private static List<long[]> and(List<long[]> x, List<long[]> y) {
            if (x == null || y == null) {
                return null;
            }
            List<long[]> all = new ArrayList<>();
            for (long[] a : x) {
                for (long[] b : y) {
                    if (((a[0] | b[0]) & (a[1] | b[1])) == 0) {
                        all.add(new long[] {a[0] | b[0], a[1] | b[1]});
                    }
                }
            }
            return least(all);
        }

        private static List<long[]> least(List<long[]> all) {
            if (all.size() > 200) {
                return null;
            }
            List<long[]> stay = new ArrayList<>();
            for (int i = 0; i < all.size(); i++) {
                boolean out = false;
                for (int j = 0; j < all.size(); j++) {
                    long[] r = all.get(i);
                    long[] s = all.get(j);
                    boolean within = (s[0] & ~r[0]) == 0 && (s[1] & ~r[1]) == 0;
                    boolean alike = s[0] == r[0] && s[1] == r[1];
                    out |= within && (!alike || j < i);
                }
                if (!out) {
                    stay.add(all.get(i));
                }
            }
            return stay;
        }
    }

    private static final class Plain {
        private static final Pattern WORD = Pattern.compile(
                "[ \\t]*(?:([()])|([a-z]+):|(\")|([!#-'*-9;-~]+)|(.)|$)", Pattern.DOTALL);

        final String text;
        int at = 0;
        int wordAt;
        int wordEnd;
        String word;
        int operand;
        int taken = 0;
        final List<String> keys = new ArrayList<>();
        final List<String> shown = new ArrayList<>();

        Plain(String text) {
            this.text = text;
        }

        Node query() throws Fault {
            next();
            if (word.isEmpty()) {
                return null;
            }
            Node all = any(0);
            if (!word.isEmpty()) {
                throw new Fault(1, wordAt);
            }
            return all;
        }

        /** The next word: "" at the end, "atom", or the sign or operator itself. */
        private void next() throws Fault {
            Matcher m = WORD.matcher(text).region(at, text.length());
            m.lookingAt();
            String found = m.group(1) != null || m.group(3) != null || m.group(5) != null || m.group(4) != null
                    ? m.group().trim() : "";
            at = m.end();
            wordAt = at - (m.group(2) != null ? m.group(2).length() + 1 : m.group(5) != null ? 1 : found.length());
            if (m.group(5) != null) {
                throw new Fault(2, wordAt);
            }
            if (m.group(2) != null) {
                int field = List.of(FIELDS).indexOf(m.group(2));
                if (field < 0) {
                    throw new Fault(3, wordAt);
                }
                if (taken == 40) {
                    throw new Fault(5, wordAt);
                }
                Matcher t = Pattern.compile("[!\"#-'*-9;-~]").matcher(text).region(at, text.length());
                if (!t.lookingAt()) {
                    throw new Fault(1, at);
                }
                atom(field, at);
            } else if (m.group(3) != null || m.group(4) != null && !found.matches("and|or|xor|not")) {
                atom(0, wordAt);
            } else {
                word = found;
            }
        }

        private void atom(int field, int from) throws Fault {
            boolean phrase = text.charAt(from) == '"';
            Matcher t = Pattern.compile(phrase ? "\"([^\"]+)\"" : "([!#-'*-9;-~]+)").matcher(text)
                    .region(from, text.length());
            if (!t.lookingAt()) {
                throw new Fault(2, from);
            }
            String own = t.group(1);
            if (!allowed(field, phrase, own)) {
                throw new Fault(4, from);
            }
            if (taken == 40) {
                throw new Fault(5, wordAt);
            }
            taken++;
            at = t.end();
            String all = (field == 0 ? "" : FIELDS[field] + ":") + t.group();
            String key = small(all);
            operand = keys.indexOf(key);
            if (operand < 0) {
                operand = keys.size();
                keys.add(key);
                shown.add(all);
            }
            word = "atom";
        }

        private static String small(String s) {
            StringBuilder all = new StringBuilder();
            for (char c : s.toCharArray()) {
                all.append(c < 128 ? Character.toLowerCase(c) : c);
            }
            return all.toString();
        }

        private static boolean allowed(int field, boolean phrase, String own) {
            switch (field) {
                case 5: return !phrase && own.matches("[a-z0-9-]{1,16}");
                case 10: return !phrase && own.matches("unread|flagged|replied|encrypted");
                case 11: return !phrase && own.matches("(1d|20200101)\\.\\.(1d)?|\\.\\.1d|1d|20200101");
                case 12: return !phrase && own.matches("[0-9]{1,7}[km]?");
                default:
                    return !own.contains("*") || !phrase && own.length() > 1 && field != 6 && field != 8
                            && own.indexOf('*') == own.lastIndexOf('*');
            }
        }

        private Node any(int depth) throws Fault {
            Node x = either(depth);
            while (word.equals("or")) {
                next();
                x = new Node(-4, x, either(depth));
            }
            return x;
        }

        private Node either(int depth) throws Fault {
            Node x = all(depth);
            while (word.equals("xor")) {
                next();
                x = new Node(-5, x, all(depth));
            }
            return x;
        }

        private Node all(int depth) throws Fault {
            Node x = neg(depth);
            while (word.matches("and|not|atom|\\(")) {
                if (word.equals("and")) {
                    next();
                }
                x = new Node(-3, x, neg(depth));
            }
            return x;
        }

        private Node neg(int depth) throws Fault {
            if (word.equals("not")) {
                next();
                return new Node(-2, neg(depth), null);
            }
            if (word.equals("atom")) {
                Node x = new Node(operand, null, null);
                next();
                return x;
            }
            if (!word.equals("(")) {
                throw new Fault(1, wordAt);
            }
            if (depth == 20) {
                throw new Fault(5, wordAt);
            }
            next();
            Node x = any(depth + 1);
            if (!word.equals(")")) {
                throw new Fault(1, wordAt);
            }
            next();
            return x;
        }

        String print(Node n) {
            if (n.entry >= 0) {
                return shown.get(n.entry);
            }
            if (n.entry == -2) {
                return "not " + wrapped(n.x, rank(n.x) < 3);
            }
            String sign = n.entry == -3 ? " " : n.entry == -4 ? " or " : " xor ";
            return wrapped(n.x, rank(n.x) < rank(n)) + sign + wrapped(n.y, rank(n.y) <= rank(n));
        }

        private String wrapped(Node n, boolean wrap) {
            return wrap ? "(" + print(n) + ")" : print(n);
        }

        private static int rank(Node n) {
            return n.entry == -4 ? 0 : n.entry == -5 ? 1 : n.entry == -3 ? 2 : 3;
        }
    }

    private static String piecesOf(int count, boolean bad) {
        StringBuilder all = new StringBuilder();
        for (int i = 0; i < count; i++) {
            boolean isBad = bad && pick(12) == 0;
            all.append(isBad ? BAD_PIECES[pick(BAD_PIECES.length)] : PIECES[pick(PIECES.length)]);
            if (pick(3) != 0) {
                all.append(' ');
            }
        }
        return all.toString();
    }

    private static String expression(int depth, int atoms) {
        if (depth == 0 || pick(6) == 0) {
            return "" + (char) ('a' + pick(atoms));
        }
        switch (pick(7)) {
            case 0: return "not (" + expression(depth - 1, atoms) + ")";
            case 1: return expression(depth - 1, atoms) + " xor " + expression(depth - 1, atoms);
            case 2: return expression(depth - 1, atoms) + " or " + expression(depth - 1, atoms);
            case 3: return expression(depth - 1, atoms) + " " + expression(depth - 1, atoms);
            case 4: return "(" + expression(depth - 1, atoms) + ") xor (" + expression(depth - 1, atoms) + ")";
            case 5: return "(" + expression(depth - 1, atoms) + ") or (" + expression(depth - 1, atoms) + ")";
            default: return "(" + expression(depth - 1, atoms) + ")(" + expression(depth - 1, atoms) + ")";
        }
    }

    private static void compare(MailQueries x, String text) {
        if (text.length() > 600) {
            return;
        }
        Plain plain = new Plain(text);
        Node all = null;
        int kind = 0;
        int place = MailQueries.NONE;
        try {
            all = plain.query();
        } catch (Fault f) {
            kind = f.kind;
            place = f.place;
        }
        int read = Calls.read(x, text);
        Calls.due("fault(0) of " + text, x.fault(0), kind);
        Calls.due("fault(1) of " + text, x.fault(1), place);
        Calls.due("read() of " + text, read, kind == 0 ? plain.keys.size() : Calls.THROWN);
        if (kind == 0 && x.fault(0) == 0 && all != null) {
            compareAnswers(x, text, plain, all);
        }
    }

    private static void compareAnswers(MailQueries x, String text, Plain plain, Node all) {
        Calls.due("the tree of " + text, Calls.tree(x), all.tree());
        Calls.due("print() of " + text, Calls.printed(x, x.print()), plain.print(all));
        List<long[]> rows = all.rows(false);
        int count = x.normal();
        Calls.due("normal() of " + text, count, rows == null ? MailQueries.NONE : rows.size());
        for (int k = 0; rows != null && k < rows.size(); k++) {
            Calls.due("row(" + k + ", false) of " + text, x.row(k, false), rows.get(k)[0]);
            Calls.due("row(" + k + ", true) of " + text, x.row(k, true), rows.get(k)[1]);
        }
        int ways = 0;
        int n = plain.keys.size();
        for (int atoms = 0; n <= 12 && atoms < 1 << n; atoms++) {
            ways += all.holds(atoms) ? 1 : 0;
        }
        Calls.due("ways() of " + text, x.ways(), n <= 12 ? ways : MailQueries.NONE);
        for (int i = 0; i < 10; i++) {
            long atoms = (long) pick(1 << 30) << 20 ^ pick(1 << 30);
            Calls.due("ask(" + atoms + ") of " + text, x.ask(atoms), all.holds(atoms));
        }
    }

    public static void main(String[] args) {
        MailQueries x = new MailQueries();
        for (int i = 0; i < 40000; i++) {
            // The same one for some texts, so that what an earlier text left is seen.
            x = i % 4 == 0 ? new MailQueries() : x;
            compare(x, piecesOf(1 + pick(i % 10 == 0 ? 120 : 14), i % 2 == 0));
        }
        for (int i = 0; i < 20000; i++) {
            x = i % 4 == 0 ? new MailQueries() : x;
            compare(x, expression(1 + pick(5), 1 + pick(20)));
        }
        Calls.finish();
    }
}
