/** Terms and promise 13, boundary cases: how many clients and states builder 3 takes, and which states are safe. */
public final class StateEdgesTest {
    private static final Check C = new Check();

    public static void main(String[] args) {
        fourClients();
        productForAsk();
        productForFeasible();
        fewClients();
        notSafe();
        wouldBeZero();
        fromTheFirstTimeOn();
        theFirstClient();
        everySetOfFour();
        C.end("StateEdgesTest");
    }

    private static void fourClients() {
        C.sentence("Builder 3 takes at most four clients");
        C.due("the last ask of 6, 6, 6, 2", 3, Check.withSpans(6, 6, 6).ask(4, 2));
        // Two of 12 can share what one of 6 has, but they are five then.
        PinwheelKernel x = Check.withSpans(12, 12, 6, 6);
        C.dueThrow("the last ask of 12, 12, 6, 6, 2", UnsupportedOperationException.class, () -> x.ask(5, 2));
        C.due("about(2) after that", 4, x.about(2));
        C.sentence("NONE if it doesn't take so many");
        C.due("feasible() of 4, 4, 4, 4", 1, Check.withSpans(4, 4, 4, 4).feasible());
        C.due("feasible() of 5, 5, 5, 5", 1, Check.withSpans(5, 5, 5, 5).feasible());
        C.due("feasible() of 5, 5, 5, 5, 5", -1, Check.withSpans(5, 5, 5, 5, 5).feasible());
        C.due("feasible() of ten", -1, Check.withSpans(40, 40, 40, 40, 40, 40, 40, 40, 40, 40).feasible());
    }

    private static void productForAsk() {
        C.sentence("the product of whose spans is not above 1500");
        C.due("a product of 1440", 3, Check.withSpans(20, 6, 6).ask(4, 2));
        C.due("a product of 1470", 3, Check.withSpans(15, 7, 7).ask(4, 2));
        C.due("a product of 1500", 3, Check.withSpans(25, 5, 4).ask(4, 3));
        C.due("another one of 1500", 3, Check.withSpans(20, 5, 5).ask(4, 3));
        // The least product above 1500 of four that can be served and that only builder 3 would take.
        PinwheelKernel x = Check.withSpans(21, 6, 6);
        C.dueThrow("a product of 1512", UnsupportedOperationException.class, () -> x.ask(4, 2));
        PinwheelKernel y = Check.withSpans(18, 7, 6);
        C.dueThrow("another one of 1512", UnsupportedOperationException.class, () -> y.ask(4, 2));
    }

    private static void productForFeasible() {
        C.sentence("NONE if it doesn't take so many, or such spans");
        C.due("two, 1480", 1, Check.withSpans(40, 37).feasible());
        C.due("two, 1482", 1, Check.withSpans(39, 38).feasible());
        C.due("two, 1520", -1, Check.withSpans(40, 38).feasible());
        C.due("two, 1521", -1, Check.withSpans(39, 39).feasible());
        C.due("three, 1496", 1, Check.withSpans(17, 11, 8).feasible());
        C.due("three, 1500", 1, Check.withSpans(15, 10, 10).feasible());
        C.due("three, 1508", -1, Check.withSpans(29, 13, 4).feasible());
        C.due("four, 1500, by builder 1", 1, Check.withSpans(10, 6, 5, 5).feasible());
        C.due("four, 1500, by builder 3", 1, Check.withSpans(25, 5, 4, 3).feasible());
        C.due("four, 1512, by builder 1", -1, Check.withSpans(7, 6, 6, 6).feasible());
        C.due("four of 40", -1, Check.withSpans(40, 40, 40, 40).feasible());
    }

    private static void fewClients() {
        C.sentence("Whether the clients present can be served without end (1 or 0; 1 without any)");
        PinwheelKernel x = new PinwheelKernel();
        C.due("feasible() of a new object", 1, x.feasible());
        x.ask(1, 1);
        C.due("feasible() while the first waits", 1, x.feasible());
        x.slot();
        C.due("feasible() of 1", 1, x.feasible());
        x.drop(1);
        C.due("feasible() while the last leaves", 1, x.feasible());
        x.slot();
        C.due("feasible() when the last has left", 1, x.feasible());
        C.due("feasible() of 40", 1, Check.withSpans(40).feasible());
        C.due("feasible() of 2, 2", 1, Check.withSpans(2, 2).feasible());
        C.due("feasible() of 3, 3, 3", 1, Check.withSpans(3, 3, 3).feasible());
    }

    private static void notSafe() {
        C.sentence("It fails if the state of the full spans isn't safe");
        C.due("8, 5, 4, 3", 3, Check.withSpans(8, 5, 4).ask(4, 3));
        PinwheelKernel seven = Check.withSpans(7, 5, 4);
        C.dueThrow("7, 5, 4, 3", UnsupportedOperationException.class, () -> seven.ask(4, 3));
        for (int span = 3; span <= 40; span++) {
            int third = span;
            PinwheelKernel x = Check.withSpans(2, 3);
            C.dueThrow("2, 3, " + span, UnsupportedOperationException.class, () -> x.ask(3, third));
        }
        PinwheelKernel full = Check.withSpans(2, 2);
        C.dueThrow("2, 2, 40", UnsupportedOperationException.class, () -> full.ask(3, 40));
        PinwheelKernel four = Check.withSpans(3, 3, 3);
        C.dueThrow("3, 3, 3, 40", UnsupportedOperationException.class, () -> four.ask(4, 40));
    }

    private static void wouldBeZero() {
        C.sentence("that may not be if one of them would be 0");
        for (int span = 1; span <= 40; span++) {
            int second = span;
            PinwheelKernel x = Check.withSpans(1);
            C.dueThrow("1, " + span, UnsupportedOperationException.class, () -> x.ask(2, second));
            PinwheelKernel y = Check.withSpans(span);
            if (span == 1) {
                C.due("feasible() of 1", 1, y.feasible());
            } else {
                C.dueThrow(span + ", 1", UnsupportedOperationException.class, () -> y.ask(2, 1));
                C.due(span + ", 2", 1, y.ask(2, 2));
            }
        }
    }

    private static void fromTheFirstTimeOn() {
        C.sentence("as soon as a state comes that was there before, "
                + "the slots from that one's first time on are the cycle");
        C.dueText("the shortest", "3 4 1 4 2", waits(new int[] {5, 5, 5}, 4, 3));
        PinwheelKernel x = Check.withSpans(16, 5, 5);
        x.ask(4, 3);
        C.due("places of the longest", 64, x.cycle(true, -1));
        C.dueText("the longest", "1 4 2 4 3 4 4 2 4 3 4 4 2 4 3 4 1 2 4 3 4 4 2 4 3 4 4 2 4 3 4 2 "
                + "1 4 3 4 2 4 4 3 4 2 4 4 3 4 2 4 1 3 4 2 4 4 3 4 2 4 4 3 4 2 4 3", Check.cycle(x, true));
        C.dueThrow("its place 64", IndexOutOfBoundsException.class, () -> x.cycle(true, 64));
        C.due("its place 63", 3, x.cycle(true, 63));
    }

    private static void theFirstClient() {
        C.sentence("the first client (the least span first, of these the least id) "
                + "is served with which a safe state comes");
        C.dueText("2, 6, 6, 6 with ids 4, 1, 2, 3", "4 3 4 1 4 2", waits(new int[] {6, 6, 6}, 4, 2));
        PinwheelKernel x = Check.with(9, 6, 8, 6, 7, 6);
        x.ask(1, 2);
        C.dueText("2, 6, 6, 6 with ids 1, 9, 8, 7", "1 9 1 7 1 8", Check.cycle(x, true));
        PinwheelKernel y = Check.with(1, 7, 8, 6, 7, 6);
        y.ask(9, 2);
        C.dueText("2, 6, 6, 7 with ids 9, 8, 7, 1", "9 7 9 8 9 1", Check.cycle(y, true));
    }

    /** Four with a product of at most 1600 whose sum is not above 1, with ids in both orders. */
    private static void everySetOfFour() {
        C.sentence("Builder 3");
        int[] builders = new int[4];
        int sets = 0;
        for (int a = 1; a <= 40; a++) {
            for (int b = a; b <= 40 && a * b <= 1600; b++) {
                for (int c = b; c <= 40 && a * b * c <= 1600; c++) {
                    for (int d = c; d <= 40 && a * b * c * d <= 1600; d++) {
                        if (b * c * d + a * c * d + a * b * d + a * b * c <= a * b * c * d) {
                            sets++;
                            builders[likeTheModel(new int[] {4, d, 3, c, 2, b, 1, a})]++;
                            builders[likeTheModel(new int[] {1, d, 2, c, 3, b, 4, a})]++;
                        }
                    }
                }
            }
        }
        C.due("sets of four", 822, sets);
        C.due("of these by builder 3, in two orders", 2 * 69, builders[3]);
    }

    /** Which builder laid the cycle that waits after the last ask, 0 if none. */
    private static int likeTheModel(int[] idsAndSpans) {
        PinwheelKernel x = new PinwheelKernel();
        Model model = new Model();
        for (int k = 0; k < 6; k += 2) {
            C.due("ask", model.ask(idsAndSpans[k], idsAndSpans[k + 1]), x.ask(idsAndSpans[k], idsAndSpans[k + 1]));
            C.due("slot()", model.slot(), x.slot());
        }
        String set = java.util.Arrays.toString(idsAndSpans);
        int due;
        try {
            due = model.ask(idsAndSpans[6], idsAndSpans[7]);
        } catch (UnsupportedOperationException e) {
            C.dueThrow("the last ask of " + set, UnsupportedOperationException.class,
                    () -> x.ask(idsAndSpans[6], idsAndSpans[7]));
            return 0;
        }
        C.due("the last ask of " + set, due, x.ask(idsAndSpans[6], idsAndSpans[7]));
        C.due("places for " + set, model.cycle(true, -1), x.cycle(true, -1));
        for (int i = 0; i < model.cycle(true, -1); i++) {
            C.due("place " + i + " for " + set, model.cycle(true, i), x.cycle(true, i));
        }
        return due;
    }

    private static String waits(int[] present, int id, int span) {
        PinwheelKernel x = Check.withSpans(present);
        C.due("ask(" + id + ", " + span + ")", 3, x.ask(id, span));
        return Check.cycle(x, true);
    }
}
