/** Promises 4 to 7, boundary cases: the wrap-around, idle places, wishes and what clients have waited. */
public final class SlotEdgesTest {
    private static final Check C = new Check();

    public static void main(String[] args) {
        overAndOver();
        overAndOverByABase();
        overAndOverByStates();
        nobodyAtAnIdlePlace();
        wishAtTheNextIdlePlace();
        wishOutlastsItsOwnPlace();
        wishWithoutIdlePlaces();
        oneWishOnly();
        wishOfOneThatStays();
        wishOfOneThatLeaves();
        wishDoneAheadOfTheSeam();
        wishMadeWhileLeaving();
        wishOfTheLast();
        waitedInTheWake();
        waitedAtMost();
        C.end("SlotEdgesTest");
    }

    private static void overAndOver() {
        C.sentence("it is gone through slot by slot, over and over");
        PinwheelKernel none = new PinwheelKernel();
        for (int k = 0; k < 5; k++) {
            C.due("about(4) of one idle place", 0, none.about(4));
            C.due("slot()", 0, none.slot());
        }
        PinwheelKernel one = Check.with(9, 1);
        C.due("about(4) of one place", 0, one.about(4));
        C.dueText("slots", "9 9 9 9", Check.slots(one, 4));
        goesRound(Check.with(9, 2), 2);
        goesRound(Check.with(9, 40), 32);
        goesRound(Check.withSpans(2, 4, 8, 16, 32, 32), 32);
    }

    private static void overAndOverByABase() {
        C.sentence("it is gone through slot by slot, over and over", "builder 2");
        goesRound(Check.withSpans(3, 3, 3), 3);
        goesRound(Check.withSpans(5, 5, 5, 5, 40), 40);
    }

    private static void overAndOverByStates() {
        C.sentence("it is gone through slot by slot, over and over", "builder 3");
        goesRound(Check.withSpans(5, 5, 5, 3), 5);
        goesRound(Check.withSpans(16, 5, 5, 3), 64);
    }

    /** Twice through the cycle and one slot more, each slot at its place. */
    private static void goesRound(PinwheelKernel x, int length) {
        C.due("places", length, x.cycle(false, -1));
        int place = x.about(4);
        for (int k = 0; k <= 2 * length; k++) {
            C.due("about(4) of " + length, place, x.about(4));
            C.due("slot() at place " + place, x.cycle(false, place), x.slot());
            place = place == length - 1 ? 0 : place + 1;
        }
    }

    private static void nobodyAtAnIdlePlace() {
        C.sentence("0 if nobody (an idle place without a wish; all present wait one more then)");
        PinwheelKernel x = Check.with(1, 4, 2, 4);
        C.due("slot()", 2, x.slot());
        C.due("waited(1)", 1, x.waited(1));
        C.due("waited(2)", 0, x.waited(2));
        C.due("slot() at an idle place", 0, x.slot());
        C.due("waited(1)", 2, x.waited(1));
        C.due("waited(2)", 1, x.waited(2));
        C.due("worst(1)", 2, x.worst(1));
        C.due("about(6)", 4, x.about(6));
    }

    private static void wishAtTheNextIdlePlace() {
        C.sentence("A client wishes for the next idle place");
        PinwheelKernel x = Check.with(1, 4, 2, 4);
        x.slot();
        x.wish(1);
        C.due("slot() at the idle place, which is next", 1, x.slot());
        C.due("about(3)", 0, x.about(3));
        C.due("waited(1)", 0, x.waited(1));
        C.due("waited(2)", 1, x.waited(2));
        C.due("slot() at the idle place behind it", 0, x.slot());
        x.wish(1);
        C.due("about(3) of a new wish", 1, x.about(3));
        C.dueText("slots", "1 2 1 0 1 2 0 0", Check.slots(x, 8));
    }

    private static void wishOutlastsItsOwnPlace() {
        C.sentence("(the wish stands until then, also if its own place comes first)");
        PinwheelKernel x = Check.with(1, 4, 2, 4);
        Check.slots(x, 3);
        x.wish(2);
        C.due("slot() of another", 1, x.slot());
        C.due("about(3)", 2, x.about(3));
        C.due("slot() of its own", 2, x.slot());
        C.due("about(3)", 2, x.about(3));
        C.due("slot() at the idle place", 2, x.slot());
        C.due("about(3)", 0, x.about(3));
    }

    private static void wishWithoutIdlePlaces() {
        C.sentence("the wish stands until then", "a full cycle");
        PinwheelKernel x = Check.with(1, 2, 2, 2);
        x.wish(1);
        C.dueText("slots", "2 1 2 1 2 1 2 1", Check.slots(x, 8));
        C.due("about(3)", 1, x.about(3));
        C.dueThrow("wish(2)", IllegalStateException.class, () -> x.wish(2));
        x.drop(2);
        C.dueText("slots with an idle place", "1 1 1 0", Check.slots(x, 4));
        C.due("about(3)", 0, x.about(3));
    }

    private static void oneWishOnly() {
        C.sentence("IllegalStateException if a wish stands");
        PinwheelKernel x = Check.with(1, 4, 2, 4);
        C.due("about(3)", 0, x.about(3));
        x.wish(1);
        C.dueThrow("wish(1) again", IllegalStateException.class, () -> x.wish(1));
        C.dueThrow("wish(2) then", IllegalStateException.class, () -> x.wish(2));
        C.due("about(3)", 1, x.about(3));
        C.dueText("slots", "2 1", Check.slots(x, 2));
        x.wish(2);
        C.due("about(3) when the first is done", 2, x.about(3));
    }

    private static void wishOfOneThatStays() {
        C.sentence("At an idle place the client that is WISHED for, if there is one, "
                + "is served instead, and the wish is done");
        PinwheelKernel x = Check.with(1, 4, 2, 4);
        x.wish(1);
        x.ask(3, 4);
        C.due("slot() at the seam", 1, x.slot());
        C.due("about(1)", -1, x.about(1));
        C.due("about(3) behind the seam", 1, x.about(3));
        C.dueText("slots", "2 3 1 1 2 3 0", Check.slots(x, 7));
    }

    private static void wishOfOneThatLeaves() {
        C.sentence("(a wish of a client that leaves goes with it)");
        PinwheelKernel x = Check.with(1, 4, 2, 4);
        x.wish(2);
        x.drop(2);
        C.due("about(3) ahead of the seam", 2, x.about(3));
        C.dueThrow("wish(1) ahead of the seam", IllegalStateException.class, () -> x.wish(1));
        C.due("slot() at the seam", 1, x.slot());
        C.due("about(3) behind the seam", 0, x.about(3));
        C.dueText("slots", "0 0 0 1", Check.slots(x, 4));
        x.wish(1);
        C.due("about(3)", 1, x.about(3));
    }

    private static void wishDoneAheadOfTheSeam() {
        C.sentence("if not, the old cycle goes on", "with an idle place for one that leaves");
        PinwheelKernel x = Check.with(11, 11, 8, 6, 13, 13, 1, 10, 4, 10, 2, 5, 5, 10);
        C.dueText("the cycle in force", "2 8 1 4 5 2 8 11 13 0", Check.cycle(x, false));
        while (x.about(4) != 9) {
            x.slot();
        }
        x.drop(13);
        C.dueText("the cycle that waits", "2 8 1 4 2 8 5 11", Check.cycle(x, true));
        x.wish(13);
        C.due("slot() at the old cycle's idle place", 13, x.slot());
        C.due("about(5)", 1, x.about(5));
        C.due("about(3)", 0, x.about(3));
        C.due("waited(13)", 0, x.waited(13));
        C.due("about(1)", 1, x.about(1));
    }

    private static void wishMadeWhileLeaving() {
        C.sentence("it is present till the seam", "and may wish till then");
        PinwheelKernel x = Check.with(1, 4, 2, 4);
        x.drop(2);
        x.wish(2);
        C.due("about(3)", 2, x.about(3));
        C.due("slot() at the seam", 1, x.slot());
        C.due("about(3)", 0, x.about(3));
        C.dueThrow("wish(2) behind the seam", java.util.NoSuchElementException.class, () -> x.wish(2));
        PinwheelKernel y = Check.with(1, 4);
        y.ask(2, 4);
        C.dueThrow("wish(2), which comes", java.util.NoSuchElementException.class, () -> y.wish(2));
        y.slot();
        y.wish(2);
        C.due("about(3)", 2, y.about(3));
    }

    private static void wishOfTheLast() {
        C.sentence("a wish of a client that leaves goes with it", "an idle place at the seam itself");
        PinwheelKernel x = Check.with(1, 4);
        x.wish(1);
        x.drop(1);
        C.due("slot() at the seam, where nobody is left", 0, x.slot());
        C.due("about(3)", 0, x.about(3));
        C.due("about(2)", 0, x.about(2));
        C.due("slot()", 0, x.slot());
        x.ask(1, 4);
        C.dueText("slots when it is back", "1 0 0 0 1", Check.slots(x, 5));
    }

    private static void waitedInTheWake() {
        C.sentence("0 in the slot's wake in which it was served");
        PinwheelKernel x = Check.with(1, 3);
        C.due("waited(1) in its first slot's wake", 0, x.waited(1));
        C.due("worst(1) at first", 0, x.worst(1));
        x.slot();
        C.due("waited(1)", 1, x.waited(1));
        C.due("worst(1)", 1, x.worst(1));
        x.slot();
        C.due("waited(1)", 0, x.waited(1));
        C.due("worst(1)", 1, x.worst(1));
        x.wish(1);
        x.slot();
        C.due("waited(1) in a wish's wake", 0, x.waited(1));
        PinwheelKernel always = Check.with(1, 1);
        Check.slots(always, 50);
        C.due("waited(1) of one that is always served", 0, always.waited(1));
        C.due("worst(1) of one that is always served", 0, always.worst(1));
    }

    /** Where the rounding leaves nothing over, a client waits up to one slot less than its span. */
    private static void waitedAtMost() {
        C.sentence("each client is served at least once in any so many slots in a row");
        int[] spans = {1, 2, 4, 8, 16, 32};
        for (int span : spans) {
            PinwheelKernel x = Check.with(1, span);
            Check.slots(x, 100);
            C.due("worst(1) for span " + span, span - 1, x.worst(1));
        }
        PinwheelKernel forty = Check.with(1, 40);
        Check.slots(forty, 100);
        C.due("worst(1) for span 40", 31, forty.worst(1));
        PinwheelKernel five = Check.withSpans(5, 5, 5, 5, 40);
        Check.slots(five, 100);
        C.due("worst(5) for span 40 and base 5", 39, five.worst(5));
        C.due("worst(1) for span 5 and base 5", 4, five.worst(1));
        PinwheelKernel exact = Check.withSpans(16, 5, 5, 3);
        Check.slots(exact, 200);
        C.due("worst(1) for span 16 and builder 3", 15, exact.worst(1));
        C.due("worst(2) for span 5 and builder 3", 4, exact.worst(2));
        C.due("worst(4) for span 3 and builder 3", 2, exact.worst(4));
    }
}
