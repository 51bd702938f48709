/** Promises 12 and 13. */
public final class SumsTest {
    private static final Check C = new Check();

    public static void main(String[] args) {
        densities();
        feasible();
        C.end("SumsTest");
    }

    private static void densities() {
        fraction(0, 1);
        fraction(1, 1, 1);
        fraction(1, 40, 40);
        fraction(1, 2, 4, 4);
        fraction(5, 6, 2, 3);
        fraction(1, 1, 3, 3, 3);
        fraction(5, 8, 16, 16, 2);
        // Ten spans whose least common multiple is far beyond an int.
        fraction(5562403258801L, 17347180055400L, 40, 39, 37, 31, 29, 27, 23, 25, 38, 34);
        PinwheelKernel x = Check.with(1, 2);
        x.ask(2, 3);
        C.due("density(1) while one waits", 2, x.density(1));
        int[] wrong = {-1, 2, Integer.MIN_VALUE, Integer.MAX_VALUE};
        for (int part : wrong) {
            C.dueThrow("density(" + part + ")", IllegalArgumentException.class, () -> x.density(part));
        }
    }

    private static void fraction(long numerator, long denominator, int... spans) {
        PinwheelKernel x = Check.withSpans(spans);
        String of = " of " + java.util.Arrays.toString(spans);
        C.due("density(0)" + of, numerator, x.density(0));
        C.due("density(1)" + of, denominator, x.density(1));
    }

    private static void feasible() {
        isFeasible(1);
        isFeasible(1, 1);
        isFeasible(1, 40);
        isFeasible(1, 2, 3);
        isFeasible(1, 37, 40);
        isFeasible(1, 6, 6, 6, 2);
        isFeasible(1, 25, 5, 4, 3);
        isFeasible(1, 10, 10, 15);
        isFeasible(-1, 38, 40);
        isFeasible(-1, 10, 10, 16);
        isFeasible(-1, 40, 40, 40, 40);
        isFeasible(-1, 5, 5, 5, 5, 5);
        PinwheelKernel x = Check.with(1, 8, 2, 8, 3, 8, 4, 2);
        C.due("feasible() of four", 1, x.feasible());
        x.ask(5, 8);
        C.due("feasible() while a fifth comes", 1, x.feasible());
        C.dueText("the cycle that waits is as it was", "4 1 4 2 4 3 4 5", Check.cycle(x, true));
    }

    private static void isFeasible(int due, int... spans) {
        C.due("feasible() of " + java.util.Arrays.toString(spans), due, Check.withSpans(spans).feasible());
    }
}
