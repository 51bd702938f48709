/** Promises 9, 10 and 11. */
public final class LooksTest {
    private static final Check C = new Check();

    public static void main(String[] args) {
        cycles();
        abouts();
        clients();
        C.end("LooksTest");
    }

    private static void cycles() {
        PinwheelKernel x = Check.with(5, 4);
        int[] wrong = {4, 5, -2, Integer.MIN_VALUE, Integer.MAX_VALUE};
        for (int i : wrong) {
            C.dueThrow("cycle(false, " + i + ")", IndexOutOfBoundsException.class, () -> x.cycle(false, i));
            C.dueThrow("cycle(true, " + i + ")", IllegalStateException.class, () -> x.cycle(true, i));
        }
        C.dueThrow("cycle(true, -1)", IllegalStateException.class, () -> x.cycle(true, -1));
        C.dueThrow("cycle(true, 0)", IllegalStateException.class, () -> x.cycle(true, 0));
        C.dueText("in force", "5 0 0 0", Check.cycle(x, false));
        x.ask(6, 2);
        C.due("cycle(true, -1)", 4, x.cycle(true, -1));
        for (int i : wrong) {
            C.dueThrow("cycle(true, " + i + ") now", IndexOutOfBoundsException.class, () -> x.cycle(true, i));
        }
        C.dueText("the one that waits", "6 5 6 0", Check.cycle(x, true));
        C.dueText("still in force", "5 0 0 0", Check.cycle(x, false));
        x.slot();
        C.dueText("now in force", "6 5 6 0", Check.cycle(x, false));
        C.dueThrow("cycle(true, 0) then", IllegalStateException.class, () -> x.cycle(true, 0));
        x.drop(5);
        x.slot();
        C.dueThrow("cycle(false, 2) of a shorter one", IndexOutOfBoundsException.class, () -> x.cycle(false, 2));
    }

    private static void abouts() {
        PinwheelKernel x = Check.with(1, 3, 2, 3);
        int[] wrong = {-1, 7, Integer.MIN_VALUE, Integer.MAX_VALUE};
        for (int what : wrong) {
            C.dueThrow("about(" + what + ")", IllegalArgumentException.class, () -> x.about(what));
        }
        C.due("about(0)", 1, x.about(0));
        x.ask(3, 3);
        C.due("about(0) while one waits", 1, x.about(0));
        C.due("about(1) while one waits", 2, x.about(1));
        C.due("about(2) while one waits", 2, x.about(2));
        x.slot();
        C.due("about(0) behind the seam", 2, x.about(0));
        C.due("about(1) behind the seam", -1, x.about(1));
        C.due("about(2) behind the seam", 3, x.about(2));
        C.due("about(4)", 1, x.about(4));
        C.due("about(6)", 3, x.about(6));
        x.drop(1);
        C.due("about(2) while one leaves", 3, x.about(2));
    }

    private static void clients() {
        PinwheelKernel x = Check.with(500, 20, 3, 20, 999, 20, 4, 20);
        int[] due = {3, 4, 500, 999};
        for (int k = 0; k < due.length; k++) {
            C.due("client(" + k + ")", due[k], x.client(k));
        }
        int[] wrong = {-1, 4, Integer.MIN_VALUE, Integer.MAX_VALUE};
        for (int k : wrong) {
            C.dueThrow("client(" + k + ")", IndexOutOfBoundsException.class, () -> x.client(k));
        }
        x.drop(4);
        C.due("client(1) while it leaves", 4, x.client(1));
        Check.toTheSeam(x);
        C.due("client(1) then", 500, x.client(1));
        C.dueThrow("client(3) then", IndexOutOfBoundsException.class, () -> x.client(3));
    }
}
