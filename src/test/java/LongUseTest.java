/** "An object is used for at most 512 calls after it has been made": the last of these still answers as it must. */
public final class LongUseTest {
    private static final int CALLS = 512;
    private static final Check C = new Check();

    public static void main(String[] args) {
        C.sentence("An object is used for at most 512 calls after it has been made");
        slotsAlone();
        waitsAlone();
        changesAlone();
        longestCyclesAlone();
        refusalsAlone();
        manyObjects();
        C.end("LongUseTest");
    }

    private static void slotsAlone() {
        PinwheelKernel x = new PinwheelKernel();
        for (int call = 1; call < CALLS; call++) {
            C.due("slot()", 0, x.slot());
        }
        C.due("about(6) as the last call", CALLS - 1, x.about(6));
    }

    /** A seam that is never there: it is looked for ahead of each slot. */
    private static void waitsAlone() {
        PinwheelKernel x = new PinwheelKernel();
        int[][] clients = {{9, 6}, {5, 6}, {1, 7}, {6, 3}};
        int calls = 0;
        for (int[] client : clients) {
            x.ask(client[0], client[1]);
            x.slot();
            calls += 2;
        }
        x.slot();
        x.ask(3, 6);
        calls += 2;
        int before = calls;
        for (; calls < CALLS - 1; calls++) {
            x.slot();
        }
        C.due("about(5) as the last call", CALLS - 1 - before, x.about(5));
    }

    private static void changesAlone() {
        PinwheelKernel x = new PinwheelKernel();
        for (int call = 1; call <= CALLS; call += 4) {
            C.due("ask(7, 40)", 1, x.ask(7, 40));
            C.due("slot()", 7, x.slot());
            C.due("drop(7)", 1, x.drop(7));
            C.due("slot()", 0, x.slot());
        }
    }

    private static void longestCyclesAlone() {
        PinwheelKernel x = Check.withSpans(16, 5, 5);
        int calls = 3 * 4;
        while (calls + 6 <= CALLS) {
            C.due("ask(4, 3)", 3, x.ask(4, 3));
            for (int slot = 0; slot < 2; slot++) {
                x.slot();
            }
            C.due("about(1)", -1, x.about(1));
            C.due("drop(4)", 1, x.drop(4));
            x.slot();
            calls += 6;
        }
        C.due("about(2) at last", 3, x.about(2));
    }

    private static void refusalsAlone() {
        PinwheelKernel x = Check.withSpans(25, 5, 4, 3);
        for (int call = 20; call < CALLS; call++) {
            C.dueThrow("ask(5, 40)", UnsupportedOperationException.class, () -> x.ask(5, 40));
        }
        C.due("feasible() as the last call", 1, x.feasible());
    }

    /** Objects share nothing, however many there are. */
    private static void manyObjects() {
        PinwheelKernel[] all = new PinwheelKernel[200];
        for (int k = 0; k < all.length; k++) {
            all[k] = Check.with(k + 1, 1 + k % 40);
        }
        for (int k = 0; k < all.length; k++) {
            C.due("client(0) of object " + k, k + 1, all[k].client(0));
            C.due("span of object " + k, 1 + k % 40, all[k].span(k + 1));
            C.due("about(6) of object " + k, 1, all[k].about(6));
        }
    }
}
