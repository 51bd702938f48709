/** Promise 1, and that objects share nothing. */
public final class NewObjectTest {
    public static void main(String[] args) {
        Check c = new Check();
        c.due("NONE", -1, PinwheelKernel.NONE);
        PinwheelKernel x = new PinwheelKernel();
        isNew(c, x);
        c.due("slot()", 0, x.slot());
        c.due("about(6) after a slot", 1, x.about(6));
        c.due("about(4) after a slot", 0, x.about(4));

        PinwheelKernel other = new PinwheelKernel();
        x.ask(7, 2);
        x.slot();
        x.wish(7);
        isNew(c, other);
        isNew(c, new PinwheelKernel());
        c.end("NewObjectTest");
    }

    private static void isNew(Check c, PinwheelKernel x) {
        c.due("about(0)", 0, x.about(0));
        c.due("about(1)", -1, x.about(1));
        for (int what = 2; what <= 6; what++) {
            c.due("about(" + what + ")", 0, x.about(what));
        }
        c.dueText("the cycle in force", "0", Check.cycle(x, false));
        c.dueThrow("cycle(true, -1)", IllegalStateException.class, () -> x.cycle(true, -1));
        c.dueThrow("client(0)", IndexOutOfBoundsException.class, () -> x.client(0));
        c.due("density(0)", 0, x.density(0));
        c.due("density(1)", 1, x.density(1));
        c.due("feasible()", 1, x.feasible());
    }
}
