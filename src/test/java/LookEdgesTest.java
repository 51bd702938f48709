import java.util.NoSuchElementException;

/** Promises 1 and 9 to 12, boundary cases: places, clients, what and part, and what there is without clients. */
public final class LookEdgesTest {
    private static final Check C = new Check();

    public static void main(String[] args) {
        placesOfTheCycleInForce();
        placesOfTheOneThatWaits();
        aLongerOneWaits();
        aShorterOneWaits();
        noneWaits();
        whats();
        builders();
        nextPlace();
        countsSlots();
        theKthClient();
        clientsWhileOneWaits();
        partsOfTheDensity();
        densityOfFew();
        densityOfMany();
        densityNow();
        noClients();
        whenAllHaveLeft();
        C.end("LookEdgesTest");
    }

    private static void placesOfTheCycleInForce() {
        C.sentence("IndexOutOfBoundsException if there is no such place");
        hasPlaces(new PinwheelKernel(), false, 1);
        hasPlaces(Check.withSpans(1), false, 1);
        hasPlaces(Check.withSpans(2), false, 2);
        hasPlaces(Check.withSpans(3, 3, 3), false, 3);
        hasPlaces(Check.withSpans(32), false, 32);
        hasPlaces(Check.withSpans(5, 5, 5, 5, 40), false, 40);
        hasPlaces(Check.withSpans(16, 5, 5, 3), false, 64);
    }

    private static void placesOfTheOneThatWaits() {
        C.sentence("or of the one that waits; how many places it has if i is -1");
        hasPlaces(waiting(1), true, 1);
        hasPlaces(waiting(2), true, 2);
        hasPlaces(waiting(40), true, 32);
        hasPlaces(waiting(3, 3, 3), true, 3);
        hasPlaces(waiting(5, 5, 5, 5, 40), true, 40);
        hasPlaces(waiting(16, 5, 5, 3), true, 64);
    }

    private static PinwheelKernel waiting(int... spans) {
        int last = spans.length - 1;
        PinwheelKernel x = Check.withSpans(java.util.Arrays.copyOf(spans, last));
        x.ask(last + 1, spans[last]);
        return x;
    }

    private static void hasPlaces(PinwheelKernel x, boolean waiting, int length) {
        String of = " of " + length + " places";
        C.due("cycle(" + waiting + ", -1)" + of, length, x.cycle(waiting, -1));
        int[] wrong = {Integer.MIN_VALUE, -3, -2, length, length + 1, Integer.MAX_VALUE};
        for (int i : wrong) {
            C.dueThrow("cycle(" + waiting + ", " + i + ")" + of, IndexOutOfBoundsException.class,
                    () -> x.cycle(waiting, i));
        }
        int sum = 0;
        for (int i = 0; i < length; i++) {
            sum += x.cycle(waiting, i) >= 0 ? 1 : 0;
        }
        C.due("places with an id or 0" + of, length, sum);
    }

    private static void aLongerOneWaits() {
        C.sentence("Place i of the cycle in force (waiting false), or of the one that waits", "the longer one waits");
        PinwheelKernel x = Check.with(1, 2);
        x.ask(2, 4);
        C.due("cycle(false, -1)", 2, x.cycle(false, -1));
        C.due("cycle(true, -1)", 4, x.cycle(true, -1));
        C.due("cycle(false, 1)", 0, x.cycle(false, 1));
        C.due("cycle(true, 1)", 2, x.cycle(true, 1));
        C.dueThrow("cycle(false, 2)", IndexOutOfBoundsException.class, () -> x.cycle(false, 2));
        C.due("cycle(true, 3)", 0, x.cycle(true, 3));
        C.dueThrow("cycle(true, 4)", IndexOutOfBoundsException.class, () -> x.cycle(true, 4));
    }

    private static void aShorterOneWaits() {
        C.sentence("Place i of the cycle in force (waiting false), or of the one that waits", "the shorter one waits");
        PinwheelKernel x = Check.with(1, 2, 2, 4);
        x.drop(2);
        C.due("cycle(false, -1)", 4, x.cycle(false, -1));
        C.due("cycle(true, -1)", 2, x.cycle(true, -1));
        C.due("cycle(false, 3)", 0, x.cycle(false, 3));
        C.due("cycle(true, 1)", 0, x.cycle(true, 1));
        C.dueThrow("cycle(true, 2)", IndexOutOfBoundsException.class, () -> x.cycle(true, 2));
        x.slot();
        C.dueThrow("cycle(false, 2) behind the seam", IndexOutOfBoundsException.class, () -> x.cycle(false, 2));
    }

    private static void noneWaits() {
        C.sentence("IllegalStateException if none waits");
        int[] places = {Integer.MIN_VALUE, -2, -1, 0, 1, 2, Integer.MAX_VALUE};
        PinwheelKernel first = new PinwheelKernel();
        PinwheelKernel behindASeam = Check.with(1, 2);
        PinwheelKernel afterARefusal = Check.with(1, 1);
        C.dueThrow("ask(2, 40)", UnsupportedOperationException.class, () -> afterARefusal.ask(2, 40));
        for (int i : places) {
            C.dueThrow("cycle(true, " + i + ") at first", IllegalStateException.class, () -> first.cycle(true, i));
            C.dueThrow("cycle(true, " + i + ") behind a seam", IllegalStateException.class,
                    () -> behindASeam.cycle(true, i));
            C.dueThrow("cycle(true, " + i + ") after a refusal", IllegalStateException.class,
                    () -> afterARefusal.cycle(true, i));
        }
    }

    private static void whats() {
        C.sentence("IllegalArgumentException for another what");
        PinwheelKernel x = Check.with(5, 4, 6, 4);
        x.wish(6);
        int[] due = {1, -1, 2, 6, 1, 0, 2};
        for (int what = 0; what <= 6; what++) {
            C.due("about(" + what + ")", due[what], x.about(what));
        }
        int[] wrong = {Integer.MIN_VALUE, -2, -1, 7, 8, 256, Integer.MAX_VALUE};
        for (int what : wrong) {
            C.dueThrow("about(" + what + ")", IllegalArgumentException.class, () -> x.about(what));
        }
    }

    private static void builders() {
        C.sentence("0 which builder laid the cycle in force (0 for the first one), "
                + "1 that of the one that waits (NONE if none does)");
        PinwheelKernel x = new PinwheelKernel();
        int[] spans = {6, 6, 6, 2};
        int[] due = {1, 1, 1, 3};
        int inForce = 0;
        for (int k = 0; k < spans.length; k++) {
            C.due("about(0) ahead of ask " + k, inForce, x.about(0));
            C.due("about(1) ahead of ask " + k, -1, x.about(1));
            x.ask(k + 1, spans[k]);
            C.due("about(0) while it waits", inForce, x.about(0));
            C.due("about(1) while it waits", due[k], x.about(1));
            Check.toTheSeam(x);
            inForce = due[k];
        }
        C.due("about(0) at last", 3, x.about(0));
        PinwheelKernel three = Check.withSpans(3, 3, 3);
        C.due("about(0) of builder 2", 2, three.about(0));
        three.drop(1);
        C.due("about(1) of a drop", 1, three.about(1));
        C.due("about(0) ahead of the seam", 2, three.about(0));
    }

    private static void nextPlace() {
        C.sentence("4 the place that the next slot of the cycle in force has");
        PinwheelKernel x = Check.with(1, 4, 2, 4);
        int[] due = {1, 2, 3, 0, 1};
        for (int place : due) {
            C.due("about(4)", place, x.about(4));
            x.slot();
        }
        // The seam is at place 1 of the new cycle, but only the slot looks for it.
        x.slot();
        x.ask(3, 2);
        C.due("about(4) while one waits", 3, x.about(4));
        C.due("slot() at the seam", 1, x.slot());
        C.due("about(4) behind it", 2, x.about(4));
    }

    private static void countsSlots() {
        C.sentence("6 how many slots there were");
        PinwheelKernel x = new PinwheelKernel();
        for (int k = 0; k < 100; k++) {
            C.due("about(6)", k, x.about(6));
            x.slot();
            if (k % 10 == 0 && k < 50) {
                x.ask(1 + k, 16);
            }
        }
    }

    private static void theKthClient() {
        C.sentence("IndexOutOfBoundsException if there is none such");
        PinwheelKernel x = new PinwheelKernel();
        int[] ids = {500, 999, 1, 998, 2, 750, 250, 600, 400, 501};
        java.util.TreeSet<Integer> present = new java.util.TreeSet<>();
        for (int k = 0; k <= ids.length; k++) {
            isInOrder(x, present);
            if (k < ids.length) {
                x.ask(ids[k], 40);
                Check.toTheSeam(x);
                present.add(ids[k]);
            }
        }
    }

    private static void isInOrder(PinwheelKernel x, java.util.TreeSet<Integer> present) {
        int k = 0;
        for (int id : present) {
            C.due("client(" + k + ") of " + present, id, x.client(k));
            k++;
        }
        int[] wrong = {Integer.MIN_VALUE, -1, present.size(), present.size() + 1, Integer.MAX_VALUE};
        for (int none : wrong) {
            C.dueThrow("client(" + none + ") of " + present, IndexOutOfBoundsException.class, () -> x.client(none));
        }
    }

    private static void clientsWhileOneWaits() {
        C.sentence("The k-th client present, by ids, from 0 on");
        PinwheelKernel x = Check.with(5, 4);
        x.ask(4, 4);
        C.due("client(0) while 4 comes", 5, x.client(0));
        C.dueThrow("client(1) while 4 comes", IndexOutOfBoundsException.class, () -> x.client(1));
        x.slot();
        C.due("client(0) behind the seam", 4, x.client(0));
        C.due("client(1) behind the seam", 5, x.client(1));
        x.drop(4);
        C.due("client(0) while 4 leaves", 4, x.client(0));
        C.due("client(1) while 4 leaves", 5, x.client(1));
        x.slot();
        C.due("client(0) behind the seam", 5, x.client(0));
        C.dueThrow("client(1) behind the seam", IndexOutOfBoundsException.class, () -> x.client(1));
    }

    private static void partsOfTheDensity() {
        C.sentence("IllegalArgumentException for another part");
        PinwheelKernel x = Check.with(5, 4);
        C.due("density(0)", 1, x.density(0));
        C.due("density(1)", 4, x.density(1));
        PinwheelKernel none = new PinwheelKernel();
        int[] wrong = {Integer.MIN_VALUE, -2, -1, 2, 3, Integer.MAX_VALUE};
        for (int part : wrong) {
            C.dueThrow("density(" + part + ")", IllegalArgumentException.class, () -> x.density(part));
            C.dueThrow("density(" + part + ") of none", IllegalArgumentException.class, () -> none.density(part));
        }
    }

    private static void densityOfFew() {
        C.sentence("its numerator (part 0; 0 without clients) or denominator (part 1)");
        isDensity(0, 1);
        for (int span = 1; span <= 40; span++) {
            isDensity(1, span, span);
        }
        isDensity(1, 1, 2, 2);
        isDensity(1, 1, 3, 3, 3);
    }

    private static void densityOfMany() {
        C.sentence("as a fraction without common divisors");
        isDensity(1, 2, 4, 4);
        isDensity(1, 4, 40, 40, 40, 40, 40, 40, 40, 40, 40, 40);
        isDensity(1, 1, 10, 10, 10, 10, 10, 10, 10, 10, 10, 10);
        isDensity(31, 32, 2, 4, 8, 16, 32);
        isDensity(109, 120, 8, 5, 4, 3);
        // The greatest denominator that ten spans can have.
        isDensity(38456124934141L, 118731810156960L, 39, 38, 37, 35, 34, 32, 31, 29, 23, 22);
    }

    private static void isDensity(long numerator, long denominator, int... spans) {
        PinwheelKernel x = Check.withSpans(spans);
        String of = " of " + java.util.Arrays.toString(spans);
        C.due("density(0)" + of, numerator, x.density(0));
        C.due("density(1)" + of, denominator, x.density(1));
    }

    private static void densityNow() {
        C.sentence("The sum of 1 by the spans of the clients present (now)");
        PinwheelKernel x = new PinwheelKernel();
        x.ask(1, 3);
        C.due("density(0) while the first comes", 0, x.density(0));
        C.due("density(1) while the first comes", 1, x.density(1));
        x.slot();
        C.due("density(1) behind the seam", 3, x.density(1));
        x.drop(1);
        C.due("density(0) while the last leaves", 1, x.density(0));
        C.due("density(1) while the last leaves", 3, x.density(1));
        x.slot();
        C.due("density(0) behind the seam", 0, x.density(0));
        C.due("density(1) behind the seam", 1, x.density(1));
    }

    private static void noClients() {
        C.sentence("No clients; nothing waits");
        PinwheelKernel x = new PinwheelKernel();
        C.due("about(0)", 0, x.about(0));
        isEmpty(x);
        C.due("about(6)", 0, x.about(6));
    }

    private static void whenAllHaveLeft() {
        C.sentence("(1 for no clients)", "when all have left");
        PinwheelKernel x = Check.with(1, 2, 2, 2);
        x.drop(1);
        Check.toTheSeam(x);
        x.drop(2);
        Check.toTheSeam(x);
        C.due("about(0)", 1, x.about(0));
        isEmpty(x);
    }

    private static void isEmpty(PinwheelKernel x) {
        C.due("about(1)", -1, x.about(1));
        C.due("about(2)", 0, x.about(2));
        C.due("about(3)", 0, x.about(3));
        C.due("about(4)", 0, x.about(4));
        C.due("about(5)", 0, x.about(5));
        C.dueText("the cycle in force", "0", Check.cycle(x, false));
        C.dueThrow("client(0)", IndexOutOfBoundsException.class, () -> x.client(0));
        C.due("density(0)", 0, x.density(0));
        C.due("density(1)", 1, x.density(1));
        C.due("feasible()", 1, x.feasible());
        for (int id = 0; id <= 2; id++) {
            int nobody = id;
            C.dueThrow("drop(" + id + ")", NoSuchElementException.class, () -> x.drop(nobody));
            C.dueThrow("wish(" + id + ")", NoSuchElementException.class, () -> x.wish(nobody));
            C.dueThrow("waited(" + id + ")", NoSuchElementException.class, () -> x.waited(nobody));
            C.dueThrow("worst(" + id + ")", NoSuchElementException.class, () -> x.worst(nobody));
            C.dueThrow("span(" + id + ")", NoSuchElementException.class, () -> x.span(nobody));
        }
    }
}
