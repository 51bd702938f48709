/** Terms, boundary cases: the seam, and what it does to clients that come, stay and leave. */
public final class SeamEdgesTest {
    private static final Check C = new Check();

    public static void main(String[] args) {
        aheadOfEachSlot();
        theLeastPlace();
        itsOwnPlace();
        oneThatComesNew();
        oneThatHasWaited();
        pastTheLastPlace();
        atTheLastPlace();
        intoALongerCycle();
        inVainOnce();
        inVainForADrop();
        inVainWithoutEnd();
        noOtherChangeMeanwhile();
        fromAndToNobody();
        staysAndKeepsBoth();
        comesAgain();
        C.end("SeamEdgesTest");
    }

    private static void aheadOfEachSlot() {
        C.sentence("Ahead of each slot, if a cycle waits, its seam is looked for");
        PinwheelKernel x = Check.with(5, 4);
        x.slot();
        C.due("ask(6, 4)", 1, x.ask(6, 4));
        C.due("about(4) is still the old cycle's", 2, x.about(4));
        C.due("about(0) is still the old cycle's", 1, x.about(0));
        C.due("about(1)", 1, x.about(1));
        C.due("about(2)", 1, x.about(2));
        C.due("about(5)", 0, x.about(5));
        C.due("slot() at the seam", 5, x.slot());
        C.due("about(1)", -1, x.about(1));
        C.due("about(4)", 1, x.about(4));
        C.due("about(2)", 2, x.about(2));
        C.due("about(5) without a look in vain", 0, x.about(5));
        Check.slots(x, 9);
        C.due("about(5) when nothing waits", 0, x.about(5));
    }

    private static void theLeastPlace() {
        C.sentence("A SEAM is a place p of the new cycle (the least one) from which it can go on");
        PinwheelKernel x = Check.with(8, 3, 7, 4);
        x.ask(1, 7);
        // Places 1, 2 and 3 would do; from place 0 on client 7 comes too late.
        C.dueText("the cycle that waits", "8 1 8 7", Check.cycle(x, true));
        C.due("slot() at place 1", 1, x.slot());
        C.due("about(4)", 2, x.about(4));
        C.dueText("slots", "8 7 8 1", Check.slots(x, 4));
    }

    private static void itsOwnPlace() {
        C.sentence("(0 if p is its own)");
        PinwheelKernel x = Check.with(1, 4);
        Check.slots(x, 3);
        C.due("waited(1)", 3, x.waited(1));
        x.ask(2, 4);
        C.dueText("the cycle that waits", "1 2 0 0", Check.cycle(x, true));
        C.due("slot() at its own place", 1, x.slot());
        C.due("worst(1)", 3, x.worst(1));

        PinwheelKernel late = Check.with(1, 4);
        Check.slots(late, 3);
        late.ask(2, 2);
        // From place 0 on client 1 is one slot too late.
        C.dueText("the cycle that waits", "2 1 2 0", Check.cycle(late, true));
        C.due("slot() at its own place", 1, late.slot());
        C.due("about(4)", 2, late.about(4));
    }

    private static void oneThatComesNew() {
        C.sentence("for a client that comes new d is below its span");
        PinwheelKernel x = Check.with(1, 4, 3, 4);
        C.dueText("slots", "3 0 0 1", Check.slots(x, 4));
        x.ask(2, 4);
        C.dueText("the cycle that waits", "1 2 3 0", Check.cycle(x, true));
        // Client 3 must come at once, so client 2 comes last, after 3 slots.
        C.due("slot() at place 2", 3, x.slot());
        C.due("about(5)", 0, x.about(5));
        C.dueText("slots", "0 1", Check.slots(x, 2));
        C.due("waited(2), one less than its span", 3, x.waited(2));
        C.due("slot()", 2, x.slot());
        C.due("worst(2)", 3, x.worst(2));
    }

    private static void oneThatHasWaited() {
        C.sentence("for another one, which has waited w slots, w + d is below its span");
        seamAfter(4, 0, 0);
        seamAfter(4, 1, 0);
        seamAfter(4, 2, 0);
        seamAfter(4, 3, 1);
        // Its span counts, not what a builder made of it.
        seamAfter(5, 3, 0);
        seamAfter(7, 3, 0);
    }

    /** Client 1 has waited w slots when client 2 comes; in the new cycle it has d = 1 from place 0 on. */
    private static void seamAfter(int span, int w, int place) {
        PinwheelKernel x = Check.with(1, span);
        Check.slots(x, w);
        C.due("waited(1)", w, x.waited(1));
        x.ask(2, 2);
        C.dueText("the cycle that waits", "2 1 2 0", Check.cycle(x, true));
        String where = " for span " + span + " after " + w;
        C.due("slot()" + where, place == 0 ? 2 : 1, x.slot());
        C.due("about(4)" + where, place + 1, x.about(4));
        C.due("about(5)" + where, 0, x.about(5));
    }

    private static void pastTheLastPlace() {
        C.sentence("d being how many slots from p on come before a client's first one", "past the last place");
        PinwheelKernel x = Check.with(1, 4, 2, 4);
        C.dueText("slots", "2 0 0 1", Check.slots(x, 4));
        C.due("waited(2)", 3, x.waited(2));
        x.ask(3, 2);
        C.dueText("the cycle that waits", "3 1 3 2", Check.cycle(x, true));
        // Client 3 comes 1 slot and client 1 comes 2 slots behind place 3, both past the end.
        C.due("slot() at place 3", 2, x.slot());
        C.due("about(5)", 0, x.about(5));
        C.dueText("slots past the last place", "3 1 3 2", Check.slots(x, 4));
    }

    private static void atTheLastPlace() {
        C.sentence("the new cycle is in force, from p on (this slot has place p)");
        PinwheelKernel x = Check.with(1, 4, 2, 4);
        Check.slots(x, 4);
        x.ask(3, 2);
        x.slot();
        C.due("about(4) behind the last place", 0, x.about(4));
        C.due("slot()", 3, x.slot());
        C.due("about(4)", 1, x.about(4));
    }

    private static void intoALongerCycle() {
        C.sentence("from p on", "a cycle of builder 3");
        PinwheelKernel x = Check.with(5, 7, 8, 7, 2, 2);
        C.dueText("the cycle in force", "2 5 2 8", Check.cycle(x, false));
        C.due("ask(1, 7)", 3, x.ask(1, 7));
        C.dueText("the cycle that waits", "2 8 2 2 1 2 5", Check.cycle(x, true));
        C.due("slot() at place 1", 8, x.slot());
        C.due("about(4)", 2, x.about(4));
        C.due("about(0)", 3, x.about(0));
        C.dueText("slots", "2 2 1 2 5 2 8 2 2 1 2 5 2", Check.slots(x, 13));
    }

    private static void inVainOnce() {
        C.sentence("if not, the old cycle goes on");
        PinwheelKernel x = Check.with(1, 4, 2, 4);
        C.dueText("slots", "2 0 0", Check.slots(x, 3));
        x.ask(3, 2);
        C.due("slot() of the old cycle", 1, x.slot());
        C.due("about(5)", 1, x.about(5));
        C.due("about(4) of the old cycle", 1, x.about(4));
        C.due("about(1)", 1, x.about(1));
        C.due("about(2)", 2, x.about(2));
        C.dueThrow("span(3)", java.util.NoSuchElementException.class, () -> x.span(3));
        C.dueText("the cycle in force", "1 2 0 0", Check.cycle(x, false));
        C.dueText("the cycle that waits", "3 1 3 2", Check.cycle(x, true));
        C.due("slot() at the seam", 2, x.slot());
        C.due("about(5)", 1, x.about(5));
        C.due("about(1)", -1, x.about(1));
        C.due("waited(3), since its cycle came in force", 1, x.waited(3));
        C.due("worst(3)", 1, x.worst(3));
    }

    private static void inVainForADrop() {
        C.sentence("it is present till the seam", "it has to wait for it");
        PinwheelKernel x = Check.with(7, 4, 2, 2, 6, 4);
        C.dueText("the cycle in force", "2 6 2 7", Check.cycle(x, false));
        while (x.about(4) != 3) {
            x.slot();
        }
        C.due("drop(2)", 1, x.drop(2));
        C.dueText("the cycle that waits", "6 7 0 0", Check.cycle(x, true));
        // Client 7 must come at once and client 6 has waited 1, but stands 3 slots behind it.
        C.due("slot() of the old cycle", 7, x.slot());
        C.due("about(5)", 1, x.about(5));
        C.due("about(2)", 3, x.about(2));
        C.due("waited(2), which leaves", 1, x.waited(2));
        C.due("density(0)", 1, x.density(0));
        C.due("slot() at the seam", 6, x.slot());
        C.due("about(5)", 1, x.about(5));
        C.due("about(2)", 2, x.about(2));
        C.dueThrow("waited(2), which has left", java.util.NoSuchElementException.class, () -> x.waited(2));
    }

    private static void inVainWithoutEnd() {
        C.sentence("5 how often a seam was looked for in vain");
        PinwheelKernel x = Check.with(9, 6, 5, 6, 1, 7, 6, 3);
        C.dueText("the cycle in force", "6 1 5 6 9 0", Check.cycle(x, false));
        while (x.about(4) != 3) {
            x.slot();
        }
        C.due("about(5)", 0, x.about(5));
        x.ask(3, 6);
        C.dueText("the cycle that waits", "6 1 3 6 5 9", Check.cycle(x, true));
        // In no slot of the old cycle the five stand so that the new one could go on.
        for (int round = 1; round <= 5; round++) {
            C.dueText("slots of the old cycle", "6 9 0 6 1 5", Check.slots(x, 6));
            C.due("about(5)", 6 * round, x.about(5));
            C.due("about(2)", 4, x.about(2));
        }
        C.due("worst(9)", 5, x.worst(9));
        // A service ahead of its place lets client 9 wait for its new one.
        x.wish(9);
        C.dueText("slots with a wish", "6 9 9 6 1 5", Check.slots(x, 6));
        C.due("about(5)", 36, x.about(5));
        C.due("slot() at the seam", 6, x.slot());
        C.due("about(5)", 36, x.about(5));
        C.due("about(1)", -1, x.about(1));
        C.due("about(2)", 5, x.about(2));
        C.due("about(4)", 4, x.about(4));
    }

    private static void noOtherChangeMeanwhile() {
        C.sentence("meanwhile the old cycle goes on, and no other change may be asked for");
        PinwheelKernel x = Check.with(1, 4, 2, 4);
        Check.slots(x, 3);
        x.ask(3, 2);
        for (int look = 0; look < 2; look++) {
            C.dueThrow("ask(4, 40)", IllegalStateException.class, () -> x.ask(4, 40));
            C.dueThrow("ask(3, 2)", IllegalStateException.class, () -> x.ask(3, 2));
            C.dueThrow("drop(1)", IllegalStateException.class, () -> x.drop(1));
            C.dueThrow("drop(2)", IllegalStateException.class, () -> x.drop(2));
            if (look == 0) {
                C.due("slot() in vain", 1, x.slot());
            }
        }
        x.slot();
        C.dueThrow("ask(3, 2), which is present now", IllegalArgumentException.class, () -> x.ask(3, 2));
        C.due("drop(1) behind the seam", 1, x.drop(1));
        C.dueThrow("drop(1) again", IllegalStateException.class, () -> x.drop(1));
    }

    private static void fromAndToNobody() {
        C.sentence("At first it has one idle place");
        PinwheelKernel x = new PinwheelKernel();
        C.dueText("slots", "0 0 0 0 0", Check.slots(x, 5));
        x.ask(3, 40);
        C.due("slot(): the first client never waits for its seam", 3, x.slot());
        Check.slots(x, 31);
        C.due("about(4)", 0, x.about(4));
        Check.slots(x, 7);
        x.drop(3);
        C.due("slot(): the last one's seam is always there", 0, x.slot());
        C.due("about(5)", 0, x.about(5));
        C.due("about(2)", 0, x.about(2));
        C.due("about(4)", 0, x.about(4));
        C.due("about(0): builder 1 laid that one", 1, x.about(0));
        C.dueText("the cycle in force", "0", Check.cycle(x, false));
        C.dueText("slots", "0 0 0", Check.slots(x, 3));
    }

    private static void staysAndKeepsBoth() {
        C.sentence("one that stays at a seam keeps both");
        PinwheelKernel x = Check.with(5, 8);
        Check.slots(x, 5);
        x.ask(3, 4);
        C.due("slot() at the seam", 3, x.slot());
        C.due("waited(5)", 6, x.waited(5));
        C.due("worst(5)", 6, x.worst(5));
        C.due("slot()", 5, x.slot());
        C.due("waited(5)", 0, x.waited(5));
        C.due("worst(5)", 6, x.worst(5));
        x.drop(3);
        x.slot();
        C.due("worst(5) behind the next seam", 6, x.worst(5));
        C.due("waited(5) behind the next seam", 0, x.waited(5));
    }

    private static void comesAgain() {
        C.sentence("since it is present, 0 at first");
        PinwheelKernel x = Check.with(5, 8);
        Check.slots(x, 7);
        C.due("worst(5)", 7, x.worst(5));
        x.drop(5);
        x.slot();
        x.ask(5, 8);
        C.due("slot()", 5, x.slot());
        C.due("worst(5) when it comes again", 0, x.worst(5));
        C.due("waited(5) when it comes again", 0, x.waited(5));
        Check.slots(x, 2);
        C.due("worst(5)", 2, x.worst(5));
    }
}
