import java.util.NoSuchElementException;

/** Promises 2 and 3, boundary cases: a change that is asked for, refused, and its last slot ahead of the seam. */
public final class ChangeEdgesTest {
    private static final Check C = new Check();
    /** Sets that are as full as their builder takes them, or nearly, and one of each kind with room. */
    private static final int[][] SETS = {
        {1}, {2, 2}, {2, 4, 4}, {2, 4, 8, 16, 32, 32}, {8, 8, 8, 8, 8, 8, 8, 8}, {40}, {40, 40, 40},
        {3, 3, 3}, {3, 3, 6, 12, 24, 24}, {6, 6, 6, 6, 6, 6}, {5, 5, 5, 5, 5}, {5, 5, 5, 5, 10, 20, 40, 40},
        {7, 7, 7, 7, 7, 7, 7}, {7, 7, 7, 7, 7, 7, 14, 28, 28}, {9, 9, 9, 9, 9, 9, 9, 9, 9},
        {9, 9, 9, 9, 9, 9, 9, 9, 18, 18}, {10, 10, 10, 10, 10, 10, 10, 10, 10, 10},
        {11, 11, 11, 11, 11, 11, 11, 11, 11, 11}, {40, 40, 40, 40, 40, 40, 40, 40, 40, 40},
        {6, 6, 6, 2}, {20, 6, 6, 2}, {17, 7, 6, 2}, {15, 7, 7, 2}, {8, 5, 4, 3}, {25, 5, 4, 3},
        {5, 5, 5, 3}, {16, 5, 5, 3}, {20, 5, 5, 3},
    };

    public static void main(String[] args) {
        presentFromTheSeamOn();
        presentTillTheSeam();
        whichBuilder();
        askWhileOneWaits();
        dropWhileOneWaits();
        allBuildersFail();
        askedAgainAfterARefusal();
        oneOfTheBuildersNeverFails();
        dropsDownToNobody();
        C.end("ChangeEdgesTest");
    }

    private static void presentFromTheSeamOn() {
        C.sentence("it is present from the seam on");
        PinwheelKernel x = new PinwheelKernel();
        x.ask(7, 2);
        C.due("about(2) ahead of the seam", 0, x.about(2));
        C.dueThrow("waited(7) ahead of the seam", NoSuchElementException.class, () -> x.waited(7));
        C.dueThrow("worst(7) ahead of the seam", NoSuchElementException.class, () -> x.worst(7));
        C.dueThrow("span(7) ahead of the seam", NoSuchElementException.class, () -> x.span(7));
        C.dueThrow("wish(7) ahead of the seam", NoSuchElementException.class, () -> x.wish(7));
        C.dueThrow("drop(7) ahead of the seam", NoSuchElementException.class, () -> x.drop(7));
        C.dueThrow("client(0) ahead of the seam", IndexOutOfBoundsException.class, () -> x.client(0));
        C.due("slot() at the seam", 7, x.slot());
        C.due("about(2)", 1, x.about(2));
        C.due("waited(7)", 0, x.waited(7));
        C.due("worst(7)", 0, x.worst(7));
        C.due("span(7)", 2, x.span(7));
        C.due("client(0)", 7, x.client(0));
        x.wish(7);
        C.due("drop(7)", 1, x.drop(7));
    }

    private static void presentTillTheSeam() {
        C.sentence("it is present till the seam");
        PinwheelKernel x = Check.with(7, 2, 8, 2);
        x.drop(7);
        C.due("about(2) ahead of the seam", 2, x.about(2));
        C.due("waited(7) ahead of the seam", 0, x.waited(7));
        C.due("worst(7) ahead of the seam", 0, x.worst(7));
        C.due("span(7) ahead of the seam", 2, x.span(7));
        C.due("client(0) ahead of the seam", 7, x.client(0));
        x.wish(7);
        C.due("slot() at the seam", 8, x.slot());
        C.due("about(2)", 1, x.about(2));
        C.dueThrow("waited(7)", NoSuchElementException.class, () -> x.waited(7));
        C.dueThrow("worst(7)", NoSuchElementException.class, () -> x.worst(7));
        C.dueThrow("span(7)", NoSuchElementException.class, () -> x.span(7));
        C.dueThrow("wish(7)", NoSuchElementException.class, () -> x.wish(7));
        C.dueThrow("drop(7)", NoSuchElementException.class, () -> x.drop(7));
        C.due("client(0)", 8, x.client(0));
    }

    private static void whichBuilder() {
        C.sentence("lay a cycle for it by the first builder that doesn't fail");
        C.due("2 and 4, 4", 1, Check.withSpans(4, 4).ask(3, 2));
        // Builder 3 would do for these as well.
        C.due("3 and 3, 3", 2, Check.withSpans(3, 3).ask(3, 3));
        C.due("2 and 6, 6, 6", 3, Check.withSpans(6, 6, 6).ask(4, 2));
    }

    private static void askWhileOneWaits() {
        C.sentence("IllegalStateException if a cycle waits", "ask");
        PinwheelKernel x = new PinwheelKernel();
        x.ask(7, 40);
        C.dueThrow("ask(8, 40) while the first waits", IllegalStateException.class, () -> x.ask(8, 40));
        C.dueThrow("ask(7, 40) while it waits itself", IllegalStateException.class, () -> x.ask(7, 40));
        C.dueThrow("ask(8, 41) while the first waits", IllegalArgumentException.class, () -> x.ask(8, 41));
        x.slot();
        C.due("ask(8, 40) behind the seam", 1, x.ask(8, 40));
        x.slot();
        x.drop(8);
        C.dueThrow("ask(9, 40) while one leaves", IllegalStateException.class, () -> x.ask(9, 40));
        C.dueThrow("ask(8, 40), which leaves", IllegalArgumentException.class, () -> x.ask(8, 40));
        x.slot();
        C.due("ask(8, 40) behind the seam", 1, x.ask(8, 40));
        // What no builder would take is refused for what waits, too.
        PinwheelKernel full = Check.with(1, 2);
        full.ask(2, 2);
        C.dueThrow("ask(3, 1)", IllegalStateException.class, () -> full.ask(3, 1));
    }

    private static void dropWhileOneWaits() {
        C.sentence("IllegalStateException if a cycle waits", "drop");
        PinwheelKernel x = Check.with(7, 40);
        x.ask(8, 40);
        C.dueThrow("drop(7) while one comes", IllegalStateException.class, () -> x.drop(7));
        C.dueThrow("drop(8), which comes", NoSuchElementException.class, () -> x.drop(8));
        x.slot();
        C.due("drop(7) behind the seam", 1, x.drop(7));
        C.dueThrow("drop(7) while it leaves", IllegalStateException.class, () -> x.drop(7));
        C.dueThrow("drop(8) while one leaves", IllegalStateException.class, () -> x.drop(8));
        C.dueThrow("drop(9) while one leaves", NoSuchElementException.class, () -> x.drop(9));
        x.slot();
        C.dueThrow("drop(7), which has left", NoSuchElementException.class, () -> x.drop(7));
        C.due("drop(8) behind the seam", 1, x.drop(8));
    }

    private static void allBuildersFail() {
        C.sentence("or all builders fail");
        PinwheelKernel x = Check.with(7, 2, 8, 3);
        String before = Check.everything(x);
        for (int span = 1; span <= 40; span++) {
            int third = span;
            C.dueThrow("ask(9, " + span + ")", UnsupportedOperationException.class, () -> x.ask(9, third));
        }
        C.dueText("all after that", before, Check.everything(x));
        C.due("slot()", 8, x.slot());
        // With a 4 in the 3's stead there is room for one more.
        PinwheelKernel y = Check.with(7, 2, 8, 4);
        C.dueThrow("ask(9, 3)", UnsupportedOperationException.class, () -> y.ask(9, 3));
        C.due("ask(9, 4)", 1, y.ask(9, 4));
    }

    private static void askedAgainAfterARefusal() {
        C.sentence("A call that throws changes nothing.", "an ask that all builders refuse");
        PinwheelKernel x = Check.with(7, 2, 8, 4);
        C.dueThrow("ask(9, 3)", UnsupportedOperationException.class, () -> x.ask(9, 3));
        C.due("about(1)", -1, x.about(1));
        C.due("drop(7) after it", 1, x.drop(7));
        C.dueText("the cycle that waits", "8 0 0 0", Check.cycle(x, true));
        C.dueThrow("ask(9, 3) while one waits", IllegalStateException.class, () -> x.ask(9, 3));
        C.dueText("the cycle that waits still", "8 0 0 0", Check.cycle(x, true));
        C.dueText("the cycle in force still", "7 8 7 0", Check.cycle(x, false));
    }

    private static void oneOfTheBuildersNeverFails() {
        C.sentence("one of the builders never fails for those left");
        for (int[] spans : SETS) {
            for (int k = 1; k <= spans.length; k++) {
                PinwheelKernel x = Check.withSpans(spans);
                Model model = new Model();
                for (int j = 1; j <= spans.length; j++) {
                    model.ask(j, spans[j - 1]);
                    for (int tries = 0; tries < 40 && model.about(1) != -1; tries++) {
                        model.slot();
                    }
                }
                String call = "drop(" + k + ") of " + java.util.Arrays.toString(spans);
                C.due(call, model.drop(k), x.drop(k));
                C.due("places after " + call, model.cycle(true, -1), x.cycle(true, -1));
            }
        }
    }

    private static void dropsDownToNobody() {
        C.sentence("A client leaves");
        PinwheelKernel x = Check.withSpans(10, 10, 10, 10, 10, 10, 10, 10, 10, 10);
        int[] builders = {2, 1, 1, 1, 1, 1, 1, 1, 1, 1};
        for (int k = 1; k <= 10; k++) {
            C.due("drop(" + k + ")", builders[k - 1], x.drop(k));
            Check.toTheSeam(x);
            C.due("about(2) behind the seam", 10 - k, x.about(2));
        }
        C.dueText("the cycle in force", "0", Check.cycle(x, false));
    }
}
