import java.util.NoSuchElementException;

/** Promise 5. */
public final class WishTest {
    private static final Check C = new Check();

    public static void main(String[] args) {
        wrongWishes();
        standsTillAnIdlePlace();
        leavesWithItsClient();
        staysAtASeam();
        C.end("WishTest");
    }

    private static void wrongWishes() {
        PinwheelKernel x = Check.with(5, 4, 6, 4);
        int[] ids = {0, -1, 7, 1000, Integer.MIN_VALUE, Integer.MAX_VALUE};
        for (int id : ids) {
            C.dueThrow("wish(" + id + ")", NoSuchElementException.class, () -> x.wish(id));
        }
        C.due("about(3)", 0, x.about(3));
        x.ask(7, 4);
        C.dueThrow("wish(7), which only comes", NoSuchElementException.class, () -> x.wish(7));
        x.wish(6);
        C.due("about(3)", 6, x.about(3));
        C.dueThrow("wish(5) while one stands", IllegalStateException.class, () -> x.wish(5));
        C.dueThrow("wish(6) while it stands", IllegalStateException.class, () -> x.wish(6));
        C.dueThrow("wish(9) while one stands", NoSuchElementException.class, () -> x.wish(9));
        C.due("about(3)", 6, x.about(3));
    }

    private static void standsTillAnIdlePlace() {
        PinwheelKernel x = Check.with(5, 4, 6, 4);
        x.wish(6);
        C.due("slot() at its own place", 6, x.slot());
        C.due("about(3) still", 6, x.about(3));
        C.due("slot() at the idle place", 6, x.slot());
        C.due("about(3) then", 0, x.about(3));
        C.due("waited(6)", 0, x.waited(6));
        C.due("waited(5)", 2, x.waited(5));
        C.due("slot() without a wish", 0, x.slot());
        x.wish(5);
        C.dueText("the cycle stays as it was", "5 6 5 0 5 6", Check.slots(x, 6));
    }

    private static void leavesWithItsClient() {
        PinwheelKernel x = Check.with(5, 2, 6, 4, 7, 4);
        C.dueText("the cycle", "5 6 5 7", Check.cycle(x, false));
        x.wish(6);
        x.drop(6);
        C.due("about(3) ahead of the seam", 6, x.about(3));
        C.due("slot() at the seam", 5, x.slot());
        C.due("about(3) behind it", 0, x.about(3));
        C.dueText("the idle place stays idle", "7 5 0 5", Check.slots(x, 4));
    }

    private static void staysAtASeam() {
        PinwheelKernel x = Check.with(5, 2, 6, 4, 7, 4);
        x.wish(7);
        x.drop(6);
        C.due("slot() at the seam", 5, x.slot());
        C.due("about(3) behind it", 7, x.about(3));
        C.dueText("the idle place is used", "7 5 7 5 7 5 0", Check.slots(x, 7));
    }
}
