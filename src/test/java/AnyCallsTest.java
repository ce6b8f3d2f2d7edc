/**
 * Runs of 512 calls, the most that an object is made for, with any arguments in any state: nothing but
 * read()'s IllegalArgumentException is thrown, and the text in hand is as long as the document says.
 */
public final class AnyCallsTest {
    private static final int RUNS = 1500;
    private static final int CALLS = 512;
    private static final int[] EDGES = {Integer.MIN_VALUE, -21, -5, -2, -1, 0, 1, 2, 3, 4, 5, 11, 12, 13, 19, 20, 21, 39, 40,
        41, 199, 200, 201, 228, 229, 599, 600, 601, 1199, 1200, Integer.MAX_VALUE};
    private static final String PIECES = "a b c or and xor not (()) \"x\" from:a* tag:q is:unread date:1d.. size:1k not ( or ) ";

    private static long noise = 2026;
    private static int length = 0;

    private static int pick(int below) {
        noise = noise * 6364136223846793005L + 1442695040888963407L;
        return (int) ((noise >>> 33) % below);
    }

    private static int edge() {
        return pick(4) == 0 ? pick(45) - 2 : EDGES[pick(EDGES.length)];
    }

    private static int fourBytes() {
        if (pick(20) == 0) {
            return (int) (noise >>> 20);
        }
        int four = 0;
        int from = pick(PIECES.length() - 4);
        for (int i = 0; i < 4; i++) {
            four = four << 8 | PIECES.charAt(from + i);
        }
        return four;
    }

    public static void main(String[] args) {
        for (int run = 0; run < RUNS; run++) {
            MailQueries x = new MailQueries();
            length = 0;
            for (int call = 0; call < CALLS; call++) {
                try {
                    oneCall(x, pick(18));
                } catch (RuntimeException e) {
                    Calls.due("run " + run + ", call " + call + " threw " + e, 1, 0);
                }
            }
        }
        Calls.finish();
    }

    private static void oneCall(MailQueries x, int which) {
        switch (which) {
            case 0: case 1: case 2:
                x.feed(fourBytes(), fourBytes(), fourBytes(), fourBytes(), fourBytes());
                break;
            case 3: case 4: case 5: end(x, pick(3) == 0 ? edge() : 20); break;
            case 6: read(x); break;
            case 7: x.fault(edge()); break;
            case 8: x.atom(edge(), edge()); break;
            case 9: x.atomByte(edge(), edge()); break;
            case 10: x.range(edge(), edge()); break;
            case 11: x.tree(edge()); break;
            case 12: Calls.due("print() is at most 1200", x.print() <= 1200, true); break;
            case 13: x.printed(edge()); break;
            case 14: Calls.due("normal() is at most 200", x.normal() <= 200, true); break;
            case 15: x.row(edge(), pick(2) == 0); break;
            case 16: x.ask(noise); break;
            default: Calls.due("ways() is at most 4096", x.ways() <= 4096, true); break;
        }
    }

    private static void end(MailQueries x, int n) {
        boolean comes = n >= 0 && n <= 20 && length + n <= 600;
        length += comes ? n : 0;
        Calls.due("end(" + n + ")", x.end(n), comes ? length : MailQueries.NONE);
    }

    private static void read(MailQueries x) {
        boolean thrown = false;
        int atoms = 0;
        try {
            atoms = x.read();
        } catch (IllegalArgumentException e) {
            thrown = true;
        }
        Calls.due("fault(0) tells whether read() threw", x.fault(0) != 0, thrown);
        Calls.due("the place is within the text", x.fault(1) <= length && x.fault(1) >= (thrown ? 0 : -1), true);
        Calls.due("at most 40 atoms", atoms <= 40, true);
        length = 0;
        Calls.due("end(0) behind read()", x.end(0), 0);
    }
}
