import java.util.NoSuchElementException;

/** Promise 3. */
public final class DropTest {
    private static final Check C = new Check();

    public static void main(String[] args) {
        wrongDrops();
        presentTillTheSeam();
        builders();
        C.end("DropTest");
    }

    private static void wrongDrops() {
        PinwheelKernel x = Check.with(5, 4);
        String before = Check.everything(x);
        int[] ids = {0, -1, 4, 6, 1000, Integer.MIN_VALUE, Integer.MAX_VALUE};
        for (int id : ids) {
            C.dueThrow("drop(" + id + ")", NoSuchElementException.class, () -> x.drop(id));
        }
        C.dueText("all after wrong drops", before, Check.everything(x));
        C.dueThrow("drop(0) on a new object", NoSuchElementException.class, () -> new PinwheelKernel().drop(0));

        x.ask(6, 4);
        C.dueThrow("drop(5) while one waits", IllegalStateException.class, () -> x.drop(5));
        C.dueThrow("drop(6), which only comes", NoSuchElementException.class, () -> x.drop(6));
        C.dueThrow("drop(7) while one waits", NoSuchElementException.class, () -> x.drop(7));
        x.slot();
        x.drop(6);
        C.dueThrow("drop(6) again", IllegalStateException.class, () -> x.drop(6));
        C.dueThrow("drop(5) while one leaves", IllegalStateException.class, () -> x.drop(5));
        x.slot();
        C.dueThrow("drop(6), which has left", NoSuchElementException.class, () -> x.drop(6));
    }

    private static void presentTillTheSeam() {
        PinwheelKernel x = Check.with(7, 2, 8, 3);
        C.due("drop(7)", 1, x.drop(7));
        C.due("about(1)", 1, x.about(1));
        C.due("about(2) ahead of the seam", 2, x.about(2));
        C.due("span(7)", 2, x.span(7));
        C.due("density(1)", 6, x.density(1));
        C.dueText("the new cycle", "8 0", Check.cycle(x, true));
        C.dueText("the old cycle", "7 8", Check.cycle(x, false));
        C.due("slot()", 8, x.slot());
        C.due("about(2) behind the seam", 1, x.about(2));
        C.dueThrow("span(7)", NoSuchElementException.class, () -> x.span(7));
        C.due("drop(8)", 1, x.drop(8));
        C.dueText("the cycle for nobody", "0", Check.cycle(x, true));
        C.due("slot()", 0, x.slot());
        C.due("about(2)", 0, x.about(2));
        C.due("about(0)", 1, x.about(0));
        C.due("ask of one that had left", 1, x.ask(7, 5));
    }

    private static void builders() {
        PinwheelKernel sixes = Check.with(1, 6, 2, 6, 3, 6, 4, 6, 5, 6, 6, 6);
        C.due("drop of one of six", 2, sixes.drop(1));
        C.dueText("its cycle", "2 3 4 5 6 0", Check.cycle(sixes, true));
        sixes.slot();
        C.due("drop of one of five", 1, sixes.drop(6));
        C.dueText("its cycle", "2 3 4 5", Check.cycle(sixes, true));

        PinwheelKernel exact = Check.with(1, 6, 2, 6, 3, 6, 9, 2);
        C.due("about(0)", 3, exact.about(0));
        C.due("drop out of 2, 6, 6, 6", 1, exact.drop(2));
        C.dueText("its cycle", "9 1 9 3", Check.cycle(exact, true));
    }
}
