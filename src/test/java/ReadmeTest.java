/** The example of README.md answers what is said there. */
public final class ReadmeTest {
    public static void main(String[] args) {
        Check c = new Check();
        PinwheelKernel server = new PinwheelKernel();
        c.due("ask(7, 2)", 1, server.ask(7, 2));
        c.due("slot(), the first", 7, server.slot());
        c.due("ask(8, 3)", 1, server.ask(8, 3));
        c.dueThrow("ask(9, 40) while a cycle waits", IllegalStateException.class, () -> server.ask(9, 40));
        c.dueThrow("drop(7) while a cycle waits", IllegalStateException.class, () -> server.drop(7));
        c.due("slot(), the second", 7, server.slot());
        c.dueText("the cycle in force", "7 8", Check.cycle(server, false));
        c.due("slot(), the third", 8, server.slot());
        c.due("worst(8)", 1, server.worst(8));
        c.due("drop(7)", 1, server.drop(7));
        server.wish(8);
        c.due("slot(), the fourth", 8, server.slot());
        c.dueText("the cycle in force", "8 0", Check.cycle(server, false));
        c.due("slot(), the fifth", 8, server.slot());
        c.due("about(3)", 0, server.about(3));
        c.end("ReadmeTest");
    }
}
