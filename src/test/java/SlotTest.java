/** Promise 4, and the seam. */
public final class SlotTest {
    private static final Check C = new Check();

    public static void main(String[] args) {
        overAndOver();
        idlePlaces();
        leastSeam();
        seamInVain();
        spanIsNeverReached();
        C.end("SlotTest");
    }

    private static void overAndOver() {
        PinwheelKernel x = new PinwheelKernel();
        C.dueText("slots of nobody", "0 0 0", Check.slots(x, 3));
        C.due("about(4)", 0, x.about(4));
        x.ask(5, 2);
        x.slot();
        x.ask(6, 4);
        C.dueText("spans 2 and 4", "5 6 5 0 5 6 5 0 5", Check.slots(x, 9));
        C.due("about(4)", 1, x.about(4));
        C.due("about(6)", 13, x.about(6));
    }

    private static void idlePlaces() {
        PinwheelKernel x = Check.with(5, 4);
        C.dueText("idle places", "0 0 0 5 0", Check.slots(x, 5));
        C.due("waited(5)", 1, x.waited(5));
    }

    private static void leastSeam() {
        PinwheelKernel x = Check.with(1, 4, 2, 4);
        C.dueText("slots", "2 0", Check.slots(x, 2));
        x.ask(3, 2);
        C.dueText("the new cycle", "3 1 3 2", Check.cycle(x, true));
        C.due("about(4) is the old cycle's", 3, x.about(4));
        // Client 1 has waited 2, client 2 has waited 1: from place 0 on client 2 comes too late.
        C.due("slot() at the seam", 1, x.slot());
        C.due("about(4)", 2, x.about(4));
        C.due("about(5)", 0, x.about(5));
        C.dueText("slots behind the seam", "3 2 3 1", Check.slots(x, 4));
    }

    private static void seamInVain() {
        PinwheelKernel x = Check.with(1, 4, 2, 4);
        C.dueText("slots", "2 0 0", Check.slots(x, 3));
        x.ask(3, 2);
        // Client 1 must come at once and client 2 right behind it, and nowhere they stand so.
        C.due("slot() of the old cycle", 1, x.slot());
        C.due("about(5)", 1, x.about(5));
        C.due("about(1)", 1, x.about(1));
        C.due("about(2)", 2, x.about(2));
        C.due("slot() at the seam", 2, x.slot());
        C.due("about(5)", 1, x.about(5));
        C.due("about(1)", -1, x.about(1));
        C.due("about(2)", 3, x.about(2));
        C.due("about(4)", 0, x.about(4));
        C.due("waited(3)", 1, x.waited(3));
        C.dueText("slots behind the seam", "3 1 3 2 3", Check.slots(x, 5));
    }

    /** Nobody may wait as long as its span, whatever comes and goes. */
    private static void spanIsNeverReached() {
        int[][] asks = {{1, 6}, {2, 6}, {3, 6}, {9, 2}};
        PinwheelKernel x = new PinwheelKernel();
        for (int round = 0; round < 24; round++) {
            int[] change = asks[round % 4];
            if (x.about(1) == PinwheelKernel.NONE) {
                if (round / 4 % 2 == 0) {
                    x.ask(change[0], change[1]);
                } else {
                    x.drop(change[0]);
                }
            }
            Check.slots(x, 5 + round % 3);
            for (int k = 0; k < x.about(2); k++) {
                int id = x.client(k);
                C.due("worst below the span in round " + round, 1, x.worst(id) < x.span(id) ? 1 : 0);
            }
        }
    }
}
