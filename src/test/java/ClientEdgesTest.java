import java.util.NoSuchElementException;

/** Terms, boundary cases: which ids and spans there are, and how many clients. */
public final class ClientEdgesTest {
    private static final Check C = new Check();

    public static void main(String[] args) {
        idsOfAsk();
        spansOfAsk();
        bothWrong();
        idThatIsPresent();
        idsOfTheOtherCalls();
        tenByPowers();
        tenByABase();
        theTenthThatWaits();
        roomAfterADrop();
        C.end("ClientEdgesTest");
    }

    private static void idsOfAsk() {
        C.sentence("CLIENTS have an id 1 .. 999");
        for (int id = -3; id <= 1003; id++) {
            asks(id, 40, id >= 1 && id <= 999);
            asks(id, 1, id >= 1 && id <= 999);
        }
        int[] farOff = {Integer.MIN_VALUE, Integer.MIN_VALUE + 1, -999, 1999, 65537, Integer.MAX_VALUE};
        for (int id : farOff) {
            asks(id, 40, false);
        }
    }

    private static void spansOfAsk() {
        C.sentence("and a SPAN 1 .. 40");
        for (int span = -3; span <= 43; span++) {
            asks(1, span, span >= 1 && span <= 40);
            asks(999, span, span >= 1 && span <= 40);
        }
        int[] farOff = {Integer.MIN_VALUE, -40, 80, 257, 65537, Integer.MAX_VALUE};
        for (int span : farOff) {
            asks(1, span, false);
        }
    }

    private static void bothWrong() {
        C.sentence("IllegalArgumentException if id or span is not as it must be");
        asks(0, 0, false);
        asks(1000, 41, false);
        asks(0, 41, false);
        asks(1000, 0, false);
    }

    /** On a new object, where every span can be served; what is taken can be seen. */
    private static void asks(int id, int span, boolean taken) {
        PinwheelKernel x = new PinwheelKernel();
        String call = "ask(" + id + ", " + span + ")";
        if (!taken) {
            C.dueThrow(call, IllegalArgumentException.class, () -> x.ask(id, span));
            C.due("about(1) after " + call, -1, x.about(1));
            return;
        }
        C.due(call, 1, x.ask(id, span));
        C.due("slot() after " + call, id, x.slot());
        C.due("client(0) after " + call, id, x.client(0));
        C.due("span() after " + call, span, x.span(id));
    }

    private static void idThatIsPresent() {
        C.sentence("or the id is present");
        int[] ids = {1, 2, 500, 998, 999};
        for (int id : ids) {
            PinwheelKernel x = Check.with(id, 8);
            C.dueThrow("ask(" + id + ", 8) again", IllegalArgumentException.class, () -> x.ask(id, 8));
            C.dueThrow("ask(" + id + ", 40) again", IllegalArgumentException.class, () -> x.ask(id, 40));
            int beside = id == 999 ? 998 : id + 1;
            C.due("ask(" + beside + ", 8) beside " + id, 1, x.ask(beside, 8));
            Check.toTheSeam(x);
            x.drop(id);
            Check.toTheSeam(x);
            C.due("ask(" + id + ", 8), which has left", 1, x.ask(id, 8));
        }
    }

    private static void idsOfTheOtherCalls() {
        C.sentence("NoSuchElementException if it isn't present");
        PinwheelKernel x = Check.with(1, 4, 999, 4);
        int[] ids = {Integer.MIN_VALUE, -1, 0, 2, 998, 1000, Integer.MAX_VALUE};
        for (int id : ids) {
            C.dueThrow("drop(" + id + ")", NoSuchElementException.class, () -> x.drop(id));
            C.dueThrow("wish(" + id + ")", NoSuchElementException.class, () -> x.wish(id));
            C.dueThrow("waited(" + id + ")", NoSuchElementException.class, () -> x.waited(id));
            C.dueThrow("worst(" + id + ")", NoSuchElementException.class, () -> x.worst(id));
            C.dueThrow("span(" + id + ")", NoSuchElementException.class, () -> x.span(id));
        }
        C.due("waited(1)", 0, x.waited(1));
        C.due("waited(999)", 1, x.waited(999));
        C.due("worst(999)", 1, x.worst(999));
        C.due("span(1)", 4, x.span(1));
        x.wish(999);
        C.due("about(3) after wish(999)", 999, x.about(3));
        C.due("drop(1)", 1, x.drop(1));
    }

    private static void tenByPowers() {
        C.sentence("at most ten are PRESENT");
        PinwheelKernel x = Check.withSpans(40, 40, 40, 40, 40, 40, 40, 40, 40);
        C.due("about(2)", 9, x.about(2));
        C.due("ask of the tenth", 1, x.ask(10, 40));
        Check.toTheSeam(x);
        C.due("about(2)", 10, x.about(2));
        C.dueThrow("ask of the eleventh", UnsupportedOperationException.class, () -> x.ask(11, 40));
        C.due("about(2)", 10, x.about(2));
        C.due("client(9)", 10, x.client(9));
    }

    private static void tenByABase() {
        C.sentence("UnsupportedOperationException if ten are present");
        PinwheelKernel x = Check.withSpans(10, 10, 10, 10, 10, 10, 10, 10, 10);
        C.due("ask of the tenth", 2, x.ask(999, 10));
        Check.toTheSeam(x);
        C.dueText("the cycle of ten", "1 2 3 4 5 6 7 8 9 999", Check.cycle(x, false));
        C.dueThrow("ask of the eleventh", UnsupportedOperationException.class, () -> x.ask(11, 40));
        C.dueThrow("ask of one of the ten", IllegalArgumentException.class, () -> x.ask(999, 40));
        C.dueThrow("ask of an id that is none", IllegalArgumentException.class, () -> x.ask(1000, 40));
    }

    private static void theTenthThatWaits() {
        C.sentence("2 how many clients are present (now, not when the seam comes)");
        PinwheelKernel x = Check.withSpans(40, 40, 40, 40, 40, 40, 40, 40, 40);
        x.ask(10, 40);
        C.due("about(2) while the tenth waits", 9, x.about(2));
        C.dueThrow("ask of an eleventh then", IllegalStateException.class, () -> x.ask(11, 40));
        x.slot();
        C.due("about(2) behind the seam", 10, x.about(2));
    }

    private static void roomAfterADrop() {
        C.sentence("it is present till the seam");
        PinwheelKernel x = Check.withSpans(40, 40, 40, 40, 40, 40, 40, 40, 40, 40);
        x.drop(10);
        C.due("about(2) while one of ten leaves", 10, x.about(2));
        C.dueThrow("ask then", IllegalStateException.class, () -> x.ask(11, 40));
        C.dueThrow("ask of the one that leaves", IllegalArgumentException.class, () -> x.ask(10, 40));
        Check.toTheSeam(x);
        C.due("about(2) behind the seam", 9, x.about(2));
        C.due("ask of the one that has left", 1, x.ask(10, 40));
    }
}
