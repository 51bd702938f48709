/** Terms, boundary cases: what the three builders take, where they fail, and what they lay. */
public final class BuilderEdgesTest {
    private static final Check C = new Check();

    public static void main(String[] args) {
        powersOfTwo();
        timesABase();
        theFirstBase();
        notAboveTheLeastSpan();
        sumOfPowers();
        sumOfBaseThree();
        sumOfBaseFive();
        sumOfBaseSeven();
        sumOfBaseNine();
        sumIsOfTheRoundedSpans();
        lengths();
        firstFreePlaces();
        orderOfRoundedSpans();
        C.end("BuilderEdgesTest");
    }

    private static void powersOfTwo() {
        C.sentence("Builder 1 rounds each span down to a power of two");
        for (int span = 1; span <= 40; span++) {
            int power = span < 2 ? 1 : span < 4 ? 2 : span < 8 ? 4 : span < 16 ? 8 : span < 32 ? 16 : 32;
            takes(1, span);
            C.due("places for span " + span, power, lengthFor(span));
        }
    }

    /** As many clients as the base tells: all but one with it as their span, so that no other base does. */
    private static void timesABase() {
        C.sentence("builder 2 to a power of two times a BASE 3, 5, 7, .. 15");
        for (int base = 3; base <= 9; base += 2) {
            for (int span = base; span <= 40; span++) {
                int[] spans = equal(base, base);
                spans[base - 1] = span;
                int times = span < 2 * base ? 1 : span < 4 * base ? 2 : span < 8 * base ? 4 : 8;
                takes(2, spans);
                C.due("places for base " + base + " and span " + span, times * base, lengthFor(spans));
            }
        }
    }

    private static void theFirstBase() {
        C.sentence("for the first of these bases, not above the least span, with which it doesn't fail");
        // Base 5 would do as well, without an idle place.
        C.dueText("five of 6: base 3", "1 2 3 4 5 0", layFor(6, 6, 6, 6, 6));
        // Base 3 and 7 fail; base 9 would do as well, without an idle place.
        C.dueText("nine of 10: base 5", "1 2 3 4 5 6 7 8 9 0", layFor(equal(9, 10)));
        // The last base that isn't above the least span.
        C.dueText("seven of 7: base 7", "1 2 3 4 5 6 7", layFor(equal(7, 7)));
        C.dueText("nine of 9: base 9", "1 2 3 4 5 6 7 8 9", layFor(equal(9, 9)));
        // Ten clients never need base 11, 13 or 15: one of the lesser ones does for them.
        C.dueText("ten of 11: base 5", "1 2 3 4 5 6 7 8 9 10", layFor(equal(10, 11)));
        C.dueText("ten of 13: base 3", "1 2 3 4 5 6 7 8 9 10 0 0", layFor(equal(10, 13)));
        C.dueText("ten of 15: base 3", "1 2 3 4 5 6 7 8 9 10 0 0", layFor(equal(10, 15)));
    }

    /** With a base above the least span these would be thought to have a sum of 1. */
    private static void notAboveTheLeastSpan() {
        C.sentence("not above the least span");
        refuses(2, 3, 3);
        takes(2, 3, 3, 3);
        takes(2, 4, 3, 3);
        refuses(4, 5, 5, 5, 5);
        takes(2, 5, 5, 5, 5, 5);
        takes(2, 6, 5, 5, 5, 5);
        refuses(6, 7, 7, 7, 7, 7, 7);
        takes(2, 7, 7, 7, 7, 7, 7, 7);
        takes(2, 8, 7, 7, 7, 7, 7, 7);
        refuses(8, 9, 9, 9, 9, 9, 9, 9, 9);
        takes(2, 9, 9, 9, 9, 9, 9, 9, 9, 9);
        takes(2, 10, 9, 9, 9, 9, 9, 9, 9, 9);
    }

    private static void sumOfPowers() {
        C.sentence("The sum of 1 by the rounded spans must not be above 1, or it fails", "builder 1");
        takes(1, 2, 4, 8, 16, 32);
        takes(1, 2, 4, 8, 16, 32, 32);
        refuses(2, 4, 8, 16, 32, 32, 40);
        takes(1, 1);
        refuses(1, 1);
        refuses(1, 40);
        takes(1, 2, 2);
        refuses(2, 2, 40);
        takes(1, 3, 6, 12, 12);
        takes(2, 3, 6, 12, 12, 40);
        takes(1, equal(8, 8));
        takes(1, equal(8, 15));
        takes(2, 9, 9, 9, 9, 9, 9, 9, 9, 40);
    }

    private static void sumOfBaseThree() {
        C.sentence("The sum of 1 by the rounded spans must not be above 1, or it fails", "base 3");
        takes(2, 3, 3, 6, 12, 24);
        takes(2, 3, 3, 6, 12, 24, 24);
        refuses(3, 3, 6, 12, 24, 24, 40);
        refuses(3, 3, 3, 40);
        takes(2, 6, 6, 6, 6, 6, 6);
        refuses(6, 6, 6, 6, 6, 6, 40);
    }

    private static void sumOfBaseFive() {
        C.sentence("The sum of 1 by the rounded spans must not be above 1, or it fails", "base 5");
        takes(2, 5, 5, 5, 5, 10, 20, 40);
        takes(2, 5, 5, 5, 5, 10, 20, 40, 40);
        refuses(5, 5, 5, 5, 10, 20, 40, 40, 40);
    }

    private static void sumOfBaseSeven() {
        C.sentence("The sum of 1 by the rounded spans must not be above 1, or it fails", "base 7");
        takes(2, 7, 7, 7, 7, 7, 7, 14, 28);
        takes(2, 7, 7, 7, 7, 7, 7, 14, 28, 28);
        refuses(7, 7, 7, 7, 7, 7, 14, 28, 28, 40);
    }

    private static void sumOfBaseNine() {
        C.sentence("The sum of 1 by the rounded spans must not be above 1, or it fails", "base 9");
        takes(2, 9, 9, 9, 9, 9, 9, 9, 9, 18, 36);
        takes(2, 9, 9, 9, 9, 9, 9, 9, 9, 18, 18);
        refuses(9, 9, 9, 9, 9, 9, 9, 9, 18, 17);
    }

    private static void sumIsOfTheRoundedSpans() {
        C.sentence("The sum of 1 by the rounded spans must not be above 1, or it fails");
        // The spans' own sum is below 1, but the rounded ones' is above, and builder 3 doesn't take five.
        refuses(2, 7, 7, 7, 40);
        takes(1, 2, 8, 8, 8);
        takes(1, 2, 8, 8, 8, 8);
        refuses(2, 8, 8, 8, 8, 40);
    }

    private static void lengths() {
        C.sentence("The cycle is as long as the greatest rounded span (1 for no clients)");
        PinwheelKernel x = Check.with(5, 40);
        C.due("places for span 40", 32, x.cycle(false, -1));
        C.due("drop of the last client", 1, x.drop(5));
        C.due("places for no clients", 1, x.cycle(true, -1));
        C.due("its only place", 0, x.cycle(true, 0));
        C.dueThrow("place 1 of it", IndexOutOfBoundsException.class, () -> x.cycle(true, 1));
        C.due("places for 2, 4, 31", 16, lengthFor(2, 4, 31));
        C.due("places for 2, 4, 32", 32, lengthFor(2, 4, 32));
        C.due("places for 3, 3, 23", 12, lengthFor(3, 3, 23));
        C.due("places for 3, 3, 24", 24, lengthFor(3, 3, 24));
        C.due("places for 1", 1, lengthFor(1));
        C.due("places for 2", 2, lengthFor(2));
    }

    private static void firstFreePlaces() {
        C.sentence("each client in turn gets the first place that is free, "
                + "and every one that lies a multiple of its rounded span behind that");
        C.dueText("up to the last place", "1 2 1 3 1 2 1 4 1 2 1 3 1 2 1 5 1 2 1 3 1 2 1 4 1 2 1 3 1 2 1 6",
                layFor(2, 4, 8, 16, 32, 32));
        C.dueText("all but the last place", "1 2 1 3 1 2 1 4 1 2 1 3 1 2 1 0", layFor(2, 4, 8, 16));
        C.dueText("base 3 up to the last place", "1 2 3 1 2 4 1 2 3 1 2 5", layFor(3, 3, 6, 12, 12));
        C.dueText("base 3 all but the last place", "1 2 3 1 2 0", layFor(3, 3, 6));
        C.dueText("only the first place", "1 0 0 0 0 0 0 0", layFor(8));
        C.dueText("the only place", "1", layFor(1));
    }

    private static void orderOfRoundedSpans() {
        C.sentence("The clients are taken in the order of their rounded spans "
                + "(the least first, of these the least id)");
        C.dueText("4 and 7 are both 4: by ids", "2 9 0 0", lay(Check.with(9, 4), 2, 7));
        C.dueText("4 and 8 are two: by spans", "9 2 0 0 9 0 0 0", lay(Check.with(9, 4), 2, 8));
        C.dueText("3 and 5 are both 3: by ids", "2 8 9", lay(Check.with(9, 3, 8, 3), 2, 5));
        C.dueText("3 and 6 are two: by spans", "8 9 2 8 9 0", lay(Check.with(9, 3, 8, 3), 2, 6));
        C.dueText("the least and the greatest id", "1 999", lay(Check.with(999, 2), 1, 2));
    }

    private static int[] equal(int many, int span) {
        int[] spans = new int[many];
        java.util.Arrays.fill(spans, span);
        return spans;
    }

    private static PinwheelKernel withAllButTheLast(int[] spans) {
        return Check.withSpans(java.util.Arrays.copyOf(spans, spans.length - 1));
    }

    private static void takes(int builder, int... spans) {
        PinwheelKernel x = withAllButTheLast(spans);
        C.due("the last ask of " + java.util.Arrays.toString(spans), builder,
                x.ask(spans.length, spans[spans.length - 1]));
    }

    private static void refuses(int... spans) {
        PinwheelKernel x = withAllButTheLast(spans);
        C.dueThrow("the last ask of " + java.util.Arrays.toString(spans), UnsupportedOperationException.class,
                () -> x.ask(spans.length, spans[spans.length - 1]));
    }

    private static String layFor(int... spans) {
        return lay(withAllButTheLast(spans), spans.length, spans[spans.length - 1]);
    }

    private static String lay(PinwheelKernel x, int id, int span) {
        x.ask(id, span);
        return Check.cycle(x, true);
    }

    private static int lengthFor(int... spans) {
        PinwheelKernel x = withAllButTheLast(spans);
        x.ask(spans.length, spans[spans.length - 1]);
        return x.cycle(true, -1);
    }
}
