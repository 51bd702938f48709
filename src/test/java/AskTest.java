/** Promise 2 and the three builders. */
public final class AskTest {
    private static final Check C = new Check();

    public static void main(String[] args) {
        wrongArguments();
        whileOneWaits();
        tenAtMost();
        powersOfTwo();
        bases();
        states();
        whatNoBuilderTakes();
        comesAtTheSeam();
        C.end("AskTest");
    }

    private static void wrongArguments() {
        PinwheelKernel x = Check.with(5, 4);
        String before = Check.everything(x);
        int[] ids = {0, -1, 1000, Integer.MIN_VALUE, Integer.MAX_VALUE, 5};
        for (int id : ids) {
            C.dueThrow("ask(" + id + ", 8)", IllegalArgumentException.class, () -> x.ask(id, 8));
        }
        int[] spans = {0, -1, 41, Integer.MIN_VALUE, Integer.MAX_VALUE};
        for (int span : spans) {
            C.dueThrow("ask(6, " + span + ")", IllegalArgumentException.class, () -> x.ask(6, span));
        }
        C.dueText("all after wrong asks", before, Check.everything(x));
        C.due("ask(1, 40)", 1, x.ask(1, 40));
        C.due("slot()", 5, x.slot());
        C.due("ask(999, 40)", 1, x.ask(999, 40));
        C.due("ask(1, 1) on a new object", 1, new PinwheelKernel().ask(1, 1));
    }

    private static void whileOneWaits() {
        PinwheelKernel x = Check.with(5, 4);
        x.ask(6, 4);
        String before = Check.everything(x);
        C.dueThrow("ask(7, 4) while one waits", IllegalStateException.class, () -> x.ask(7, 4));
        C.dueThrow("ask(6, 4), which comes", IllegalStateException.class, () -> x.ask(6, 4));
        C.dueThrow("ask(5, 4), which is present", IllegalArgumentException.class, () -> x.ask(5, 4));
        C.dueThrow("ask(0, 4) while one waits", IllegalArgumentException.class, () -> x.ask(0, 4));
        C.dueText("all after wrong asks", before, Check.everything(x));
        x.slot();
        x.drop(6);
        C.dueThrow("ask(6, 4), which leaves", IllegalArgumentException.class, () -> x.ask(6, 4));
        C.dueThrow("ask(7, 4) while one leaves", IllegalStateException.class, () -> x.ask(7, 4));
    }

    private static void tenAtMost() {
        PinwheelKernel x = Check.with(1, 40, 2, 40, 3, 40, 4, 40, 5, 40, 6, 40, 7, 40, 8, 40, 9, 40);
        C.due("ask of the tenth", 1, x.ask(10, 40));
        x.slot();
        C.due("about(2)", 10, x.about(2));
        String before = Check.everything(x);
        C.dueThrow("ask of the eleventh", UnsupportedOperationException.class, () -> x.ask(11, 40));
        C.dueThrow("ask of the tenth again", IllegalArgumentException.class, () -> x.ask(10, 40));
        C.dueText("all after an eleventh", before, Check.everything(x));
        x.drop(3);
        C.dueThrow("an eleventh while one waits", IllegalStateException.class, () -> x.ask(11, 40));
        x.slot();
        C.due("ask when there is room again", 1, x.ask(11, 40));
    }

    private static void powersOfTwo() {
        C.dueText("spans 2, 5, 4", "5 1 5 3", waitingCycle(1, 5, 2, 3, 5, 1, 4));
        C.dueText("equal when rounded: by id, not by span", "2 9 0 0", waitingCycle(1, 9, 4, 2, 7));
        C.dueText("span 1", "4", waitingCycle(1, 4, 1));
        C.dueText("span 3", "4 0", waitingCycle(1, 4, 3));
        C.dueText("a sum of just 1", "1 2 1 3 1 2 1 4", waitingCycle(1, 4, 15, 3, 8, 2, 4, 1, 2));
        PinwheelKernel x = new PinwheelKernel();
        x.ask(3, 40);
        C.due("places for span 40", 32, x.cycle(true, -1));
    }

    private static void bases() {
        C.dueText("base 3, a sum of just 1", "1 2 3", waitingCycle(2, 3, 3, 2, 3, 1, 3));
        C.dueText("base 3 doubled", "1 3 2 1 3 4", waitingCycle(2, 4, 6, 2, 6, 1, 3, 3, 3));
        C.dueText("the first base, though 5 would do too", "1 2 3 4 5 0",
                waitingCycle(2, 1, 6, 2, 6, 3, 6, 4, 6, 5, 6));
        C.dueText("base 5, as 3 fails", "1 2 3 4 5", waitingCycle(2, 1, 5, 2, 5, 3, 5, 4, 5, 5, 5));
        C.dueText("base 7", "1 2 3 4 5 6 7", waitingCycle(2, 7, 7, 6, 7, 5, 7, 4, 7, 3, 7, 2, 7, 1, 7));
        C.dueText("base 9", "1 2 3 4 5 6 7 8 9",
                waitingCycle(2, 1, 9, 2, 9, 3, 9, 4, 9, 5, 9, 6, 9, 7, 9, 8, 9, 9, 9));
        C.dueText("base 5 doubled", "1 2 3 4 5 6 7 8 9 10",
                waitingCycle(2, 1, 11, 2, 11, 3, 11, 4, 11, 5, 11, 6, 11, 7, 11, 8, 11, 9, 11, 10, 11));
    }

    private static void states() {
        C.dueText("spans 2, 6, 6, 6", "9 3 9 1 9 2", waitingCycle(3, 1, 6, 2, 6, 3, 6, 9, 2));
        C.dueText("spans 2, 6, 6, 6 with ids the other way", "1 9 1 7 1 8", waitingCycle(3, 9, 6, 8, 6, 7, 6, 1, 2));
        PinwheelKernel x = Check.with(4, 24, 3, 5, 2, 4);
        C.due("ask(1, 3) for 3, 4, 5, 24", 3, x.ask(1, 3));
        C.due("its places", 48, x.cycle(true, -1));
    }

    private static void whatNoBuilderTakes() {
        PinwheelKernel x = Check.with(7, 2, 8, 3);
        String before = Check.everything(x);
        C.dueThrow("2, 3 and 40", UnsupportedOperationException.class, () -> x.ask(9, 40));
        C.dueText("all after that", before, Check.everything(x));
        C.due("about(1) after that", -1, x.about(1));
        PinwheelKernel one = Check.with(1, 1);
        C.dueThrow("1 and 40", UnsupportedOperationException.class, () -> one.ask(2, 40));
        PinwheelKernel product = Check.with(4, 25, 3, 5, 2, 4);
        C.due("a product of 1500", 3, product.ask(1, 3));
        PinwheelKernel above = Check.with(4, 26, 3, 5, 2, 4);
        C.dueThrow("a product of 1560", UnsupportedOperationException.class, () -> above.ask(1, 3));
        PinwheelKernel five = Check.with(1, 12, 2, 12, 3, 6, 4, 6);
        C.dueThrow("five, 2, 6, 6, 12, 12", UnsupportedOperationException.class, () -> five.ask(5, 2));
    }

    private static void comesAtTheSeam() {
        PinwheelKernel x = new PinwheelKernel();
        x.ask(7, 2);
        C.due("about(1)", 1, x.about(1));
        C.due("about(2) ahead of the seam", 0, x.about(2));
        C.dueText("the old cycle", "0", Check.cycle(x, false));
        C.dueText("the new cycle", "7 0", Check.cycle(x, true));
        C.due("slot()", 7, x.slot());
        C.due("about(2) behind the seam", 1, x.about(2));
        C.due("about(0)", 1, x.about(0));
        C.due("about(1)", -1, x.about(1));
    }

    /** What waits after the last of these asks, which that builder must have laid. */
    private static String waitingCycle(int builder, int... idsAndSpans) {
        int last = idsAndSpans.length - 2;
        PinwheelKernel x = Check.with(java.util.Arrays.copyOf(idsAndSpans, last));
        String call = "ask(" + idsAndSpans[last] + ", " + idsAndSpans[last + 1] + ")";
        C.due(call, builder, x.ask(idsAndSpans[last], idsAndSpans[last + 1]));
        C.due("about(1) after " + call, builder, x.about(1));
        return Check.cycle(x, true);
    }
}
