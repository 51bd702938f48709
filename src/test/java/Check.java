import java.util.function.LongSupplier;

/** What all tests share: answers that are due, exceptions that are due, and how a test ends. */
final class Check {
    private int wrong = 0;
    private String sentence = "";

    /** Which sentence of the document the next calls stand for; it is told with each wrong answer. */
    void sentence(String text) {
        sentence = "[" + text + "] ";
    }

    /** The same, for one of several tests of a sentence. */
    void sentence(String text, String where) {
        sentence(text + " -- " + where);
    }

    void due(String call, long want, long got) {
        if (got != want) {
            tell(call + " answered " + got + ", due is " + want);
        }
    }

    void dueText(String call, String want, String got) {
        if (!got.equals(want)) {
            tell(call + " answered " + got + ", due is " + want);
        }
    }

    void dueThrow(String call, Class<? extends RuntimeException> want, LongSupplier action) {
        try {
            long got = action.getAsLong();
            tell(call + " answered " + got + ", due is " + want.getSimpleName());
        } catch (RuntimeException e) {
            if (e.getClass() != want) {
                tell(call + " threw " + e + ", due is " + want.getSimpleName());
            }
        }
    }

    void dueThrow(String call, Class<? extends RuntimeException> want, Runnable action) {
        dueThrow(call, want, () -> {
            action.run();
            return 0;
        });
    }

    /** The cycle's ids in a row, such as "7 0". */
    static String cycle(PinwheelKernel x, boolean waiting) {
        StringBuilder row = new StringBuilder();
        int length = x.cycle(waiting, -1);
        for (int i = 0; i < length; i++) {
            row.append(i == 0 ? "" : " ").append(x.cycle(waiting, i));
        }
        return row.toString();
    }

    /** Who was served in the next slots, in a row. */
    static String slots(PinwheelKernel x, int many) {
        StringBuilder row = new StringBuilder();
        for (int i = 0; i < many; i++) {
            row.append(i == 0 ? "" : " ").append(x.slot());
        }
        return row.toString();
    }

    /** A new object on which these clients (id, span, id, span, ..) have asked and had their first slot. */
    static PinwheelKernel with(int... idsAndSpans) {
        PinwheelKernel x = new PinwheelKernel();
        for (int k = 0; k < idsAndSpans.length; k += 2) {
            x.ask(idsAndSpans[k], idsAndSpans[k + 1]);
            toTheSeam(x);
        }
        return x;
    }

    /** The same, with the ids 1, 2, .. */
    static PinwheelKernel withSpans(int... spans) {
        PinwheelKernel x = new PinwheelKernel();
        for (int k = 0; k < spans.length; k++) {
            x.ask(k + 1, spans[k]);
            toTheSeam(x);
        }
        return x;
    }

    /** Slots until nothing waits. */
    static void toTheSeam(PinwheelKernel x) {
        for (int tries = 0; tries < 40 && x.about(1) != PinwheelKernel.NONE; tries++) {
            x.slot();
        }
    }

    /** All that can be seen of an object, to tell that a call that threw changed nothing. */
    static String everything(PinwheelKernel x) {
        StringBuilder all = new StringBuilder();
        for (int what = 0; what <= 6; what++) {
            all.append(x.about(what)).append(' ');
        }
        all.append("| ").append(x.density(0)).append(' ').append(x.density(1)).append(' ');
        all.append(x.feasible()).append(' ');
        for (int k = 0; k < x.about(2); k++) {
            int id = x.client(k);
            all.append("| ").append(id).append(' ').append(x.span(id)).append(' ');
            all.append(x.waited(id)).append(' ').append(x.worst(id)).append(' ');
        }
        all.append("| ").append(cycle(x, false));
        if (x.about(1) != PinwheelKernel.NONE) {
            all.append(" | ").append(cycle(x, true));
        }
        return all.toString();
    }

    void end(String name) {
        System.out.println(name + ": " + (wrong == 0 ? "all as due" : wrong + " not as due"));
        if (wrong != 0) {
            System.exit(1);
        }
    }

    private void tell(String text) {
        wrong++;
        if (wrong <= 20) {
            System.out.println(sentence + text);
        }
    }
}
