/** The calls that README.md shows under "Use" answer what it says beside them. */
public final class ReadmeTest {
    public static void main(String[] args) {
        MailQueries q = new MailQueries();
        q.feed(0x61206f72, 0x20620000, 0, 0, 0);
        Calls.due("end(6)", q.end(6), 6);
        Calls.due("read()", q.read(), 2);
        Calls.due("ask(2)", q.ask(2L), true);
        Calls.due("print()", q.print(), 6);
        Calls.due("printed(2)", q.printed(2), 'o');
        Calls.due("normal()", q.normal(), 2);
        Calls.due("row(1, false)", q.row(1, false), 2);
        Calls.due("ways()", q.ways(), 3);
        q.feed(0x61206f72, 0, 0, 0, 0);
        Calls.due("end(4)", q.end(4), 4);
        Calls.due("read() of a fault", Calls.read(q, ""), Calls.THROWN);
        Calls.due("fault(0)", q.fault(0), 1);
        Calls.due("fault(1)", q.fault(1), 4);
        Calls.due("an ATOM of the terms", Calls.read(new MailQueries(), "lunch from:\"Ann B\" date:2w.."), 3);
        Calls.finish();
    }
}
