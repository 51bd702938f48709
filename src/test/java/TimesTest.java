import java.util.NoSuchElementException;

/** Promises 6, 7 and 8. */
public final class TimesTest {
    private static final Check C = new Check();

    public static void main(String[] args) {
        whoIsntPresent();
        waitedAndWorst();
        keptAtASeam();
        newAgain();
        spans();
        C.end("TimesTest");
    }

    private static void whoIsntPresent() {
        PinwheelKernel x = Check.with(5, 4);
        x.ask(6, 4);
        int[] ids = {0, -1, 6, 1000, Integer.MIN_VALUE, Integer.MAX_VALUE};
        for (int id : ids) {
            C.dueThrow("waited(" + id + ")", NoSuchElementException.class, () -> x.waited(id));
            C.dueThrow("worst(" + id + ")", NoSuchElementException.class, () -> x.worst(id));
            C.dueThrow("span(" + id + ")", NoSuchElementException.class, () -> x.span(id));
        }
    }

    private static void waitedAndWorst() {
        PinwheelKernel x = Check.with(5, 4);
        times(x, 5, 0, 0);
        int[][] due = {{1, 1}, {2, 2}, {3, 3}, {0, 3}, {1, 3}};
        for (int[] pair : due) {
            x.slot();
            times(x, 5, pair[0], pair[1]);
        }
        x.wish(5);
        x.slot();
        times(x, 5, 0, 3);
        x.slot();
        times(x, 5, 1, 3);
    }

    private static void keptAtASeam() {
        PinwheelKernel x = Check.with(5, 8);
        Check.slots(x, 6);
        times(x, 5, 6, 6);
        x.ask(3, 4);
        C.dueText("the new cycle", "3 5 0 0 3 0 0 0", Check.cycle(x, true));
        C.due("slot() at place 0", 3, x.slot());
        times(x, 5, 7, 7);
        times(x, 3, 0, 0);
        C.due("slot()", 5, x.slot());
        times(x, 5, 0, 7);
        times(x, 3, 1, 1);
        x.drop(3);
        C.due("slot() at the next seam", 5, x.slot());
        times(x, 5, 0, 7);
    }

    private static void newAgain() {
        PinwheelKernel x = Check.with(5, 4, 6, 4);
        Check.slots(x, 3);
        times(x, 6, 2, 2);
        x.drop(6);
        x.slot();
        x.ask(6, 4);
        x.slot();
        times(x, 6, 1, 1);
        C.due("slot()", 6, x.slot());
        times(x, 6, 0, 1);
    }

    private static void spans() {
        PinwheelKernel x = Check.with(5, 40, 3, 3, 900, 17);
        C.due("span(3)", 3, x.span(3));
        C.due("span(5)", 40, x.span(5));
        C.due("span(900)", 17, x.span(900));
        x.drop(5);
        C.due("span(5) while it leaves", 40, x.span(5));
        Check.toTheSeam(x);
        C.dueThrow("span(5)", NoSuchElementException.class, () -> x.span(5));
        C.due("span(3)", 3, x.span(3));
        C.due("span(900)", 17, x.span(900));
    }

    private static void times(PinwheelKernel x, int id, int waited, int worst) {
        String at = " at slot " + x.about(6);
        C.due("waited(" + id + ")" + at, waited, x.waited(id));
        C.due("worst(" + id + ")" + at, worst, x.worst(id));
    }
}
