import java.util.ArrayList;
import java.util.List;
import java.util.Set;
import java.util.TreeSet;

/**
 * Every call with arguments at and beyond its edges, in many states: it answers or throws what the model does,
 * and a call that throws changes nothing that can be seen, then or later.
 */
public final class RefusedTest {
    private static final int SLOT = 0;
    private static final int ASK = 1;
    private static final int DROP = 2;
    private static final int WISH = 3;
    private static final int WAITED = 4;
    private static final int WORST = 5;
    private static final int SPAN = 6;
    private static final int IN_FORCE = 7;
    private static final int THAT_WAITS = 8;
    private static final int ABOUT = 9;
    private static final int CLIENT = 10;
    private static final int DENSITY = 11;
    private static final int FEASIBLE = 12;
    private static final String[] NAMES = {"slot", "ask", "drop", "wish", "waited", "worst", "span",
        "cycle", "cycle", "about", "client", "density", "feasible"};

    /** Runs of calls, each with its arguments, that lead to the states. */
    private static final int[][][] STATES = {
        {},
        {{SLOT}, {SLOT}},
        {{ASK, 5, 4}},
        {{ASK, 5, 1}, {SLOT}},
        {{ASK, 5, 4}, {SLOT}, {SLOT}},
        {{ASK, 5, 4}, {SLOT}, {ASK, 6, 4}},
        {{ASK, 5, 4}, {SLOT}, {ASK, 6, 4}, {SLOT}, {DROP, 6}},
        {{ASK, 5, 4}, {SLOT}, {DROP, 5}},
        {{ASK, 5, 4}, {SLOT}, {DROP, 5}, {SLOT}},
        {{ASK, 5, 4}, {SLOT}, {WISH, 5}},
        {{ASK, 5, 4}, {SLOT}, {WISH, 5}, {ASK, 6, 4}},
        {{ASK, 5, 4}, {SLOT}, {WISH, 5}, {DROP, 5}},
        {{ASK, 1, 4}, {SLOT}, {ASK, 2, 4}, {SLOT}, {SLOT}, {SLOT}, {SLOT}, {ASK, 3, 2}, {SLOT}},
        {{ASK, 999, 2}, {SLOT}, {ASK, 1, 3}, {SLOT}, {SLOT}},
        {{ASK, 3, 3}, {SLOT}, {ASK, 2, 3}, {SLOT}, {ASK, 1, 3}},
        {{ASK, 3, 3}, {SLOT}, {ASK, 2, 3}, {SLOT}, {ASK, 1, 3}, {SLOT}},
        {{ASK, 3, 6}, {SLOT}, {ASK, 2, 6}, {SLOT}, {ASK, 1, 6}, {SLOT}, {ASK, 9, 2}},
        {{ASK, 3, 6}, {SLOT}, {ASK, 2, 6}, {SLOT}, {ASK, 1, 6}, {SLOT}, {ASK, 9, 2}, {SLOT}, {SLOT}, {SLOT}},
        many(9, 40),
        many(10, 40),
        many(10, 10),
    };

    private static final Check C = new Check();
    private static final Set<String> SEEN = new TreeSet<>();

    public static void main(String[] args) {
        C.sentence("A call that throws changes nothing.");
        List<int[]> calls = calls();
        for (int[][] state : STATES) {
            for (int[] call : calls) {
                look(state, call);
            }
        }
        seenAll();
        C.end("RefusedTest");
    }

    private static int[][] many(int clients, int span) {
        int[][] calls = new int[2 * clients][];
        for (int k = 0; k < clients; k++) {
            calls[2 * k] = new int[] {ASK, k + 1, span};
            calls[2 * k + 1] = new int[] {SLOT};
        }
        return calls;
    }

    private static List<int[]> calls() {
        int[] ids = {Integer.MIN_VALUE, -1, 0, 1, 2, 3, 5, 6, 9, 10, 11, 998, 999, 1000, Integer.MAX_VALUE};
        int[] spans = {Integer.MIN_VALUE, -1, 0, 1, 2, 3, 6, 39, 40, 41, Integer.MAX_VALUE};
        int[] numbers = {Integer.MIN_VALUE, -2, -1, 0, 1, 2, 3, 4, 5, 6, 7, 8, 9, 10, 31, 32, Integer.MAX_VALUE};
        List<int[]> calls = new ArrayList<>();
        for (int id : ids) {
            for (int span : spans) {
                calls.add(new int[] {ASK, id, span});
            }
            for (int kind = DROP; kind <= SPAN; kind++) {
                calls.add(new int[] {kind, id});
            }
        }
        for (int number : numbers) {
            for (int kind = IN_FORCE; kind <= DENSITY; kind++) {
                calls.add(new int[] {kind, number});
            }
        }
        calls.add(new int[] {SLOT});
        calls.add(new int[] {FEASIBLE});
        return calls;
    }

    private static void look(int[][] state, int[] call) {
        PinwheelKernel x = new PinwheelKernel();
        PinwheelKernel untouched = new PinwheelKernel();
        Model model = new Model();
        for (int[] earlier : state) {
            outcome(x, earlier);
            outcome(untouched, earlier);
            outcome(model, earlier);
        }
        String text = text(call) + " after " + text(state);
        String due = outcome(model, call);
        String got = outcome(x, call);
        C.dueText(text, due, got);
        if (got.endsWith("Exception")) {
            SEEN.add(NAMES[call[0]] + " " + got);
            C.dueText("all behind " + text, Check.everything(untouched), Check.everything(x));
            C.dueText("slots behind " + text, Check.slots(untouched, 12), Check.slots(x, 12));
            C.dueText("all 12 slots behind " + text, Check.everything(untouched), Check.everything(x));
        }
    }

    /** Each exception that the face names must have been thrown, and no other one. */
    private static void seenAll() {
        Set<String> due = new TreeSet<>();
        for (java.lang.reflect.Method method : PinwheelKernel.class.getMethods()) {
            if (method.getDeclaringClass() == PinwheelKernel.class) {
                for (Class<?> exception : method.getExceptionTypes()) {
                    due.add(method.getName() + " " + exception.getSimpleName());
                }
            }
        }
        C.dueText("the exceptions seen", due.toString(), SEEN.toString());
    }

    private static String outcome(PinwheelKernel x, int[] call) {
        try {
            return Long.toString(answer(x, call));
        } catch (RuntimeException e) {
            return e.getClass().getSimpleName();
        }
    }

    private static String outcome(Model model, int[] call) {
        try {
            return Long.toString(answer(model, call));
        } catch (RuntimeException e) {
            return e.getClass().getSimpleName();
        }
    }

    private static long answer(PinwheelKernel x, int[] call) {
        switch (call[0]) {
            case SLOT: return x.slot();
            case ASK: return x.ask(call[1], call[2]);
            case DROP: return x.drop(call[1]);
            case WISH:
                x.wish(call[1]);
                return 0;
            case WAITED: return x.waited(call[1]);
            case WORST: return x.worst(call[1]);
            case SPAN: return x.span(call[1]);
            case IN_FORCE: return x.cycle(false, call[1]);
            case THAT_WAITS: return x.cycle(true, call[1]);
            case ABOUT: return x.about(call[1]);
            case CLIENT: return x.client(call[1]);
            case DENSITY: return x.density(call[1]);
            default: return x.feasible();
        }
    }

    private static long answer(Model model, int[] call) {
        switch (call[0]) {
            case SLOT: return model.slot();
            case ASK: return model.ask(call[1], call[2]);
            case DROP: return model.drop(call[1]);
            case WISH: return model.wish(call[1]);
            case WAITED: return model.waited(call[1]);
            case WORST: return model.worst(call[1]);
            case SPAN: return model.span(call[1]);
            case IN_FORCE: return model.cycle(false, call[1]);
            case THAT_WAITS: return model.cycle(true, call[1]);
            case ABOUT: return model.about(call[1]);
            case CLIENT: return model.client(call[1]);
            case DENSITY: return model.density(call[1]);
            default: return model.feasible();
        }
    }

    private static String text(int[]... calls) {
        StringBuilder row = new StringBuilder();
        for (int[] call : calls) {
            row.append(row.length() == 0 ? "" : " ").append(NAMES[call[0]]).append('(');
            row.append(call[0] == IN_FORCE ? "false, " : call[0] == THAT_WAITS ? "true, " : "");
            for (int k = 1; k < call.length; k++) {
                row.append(k == 1 ? "" : ", ").append(call[k]);
            }
            row.append(')');
        }
        return row.length() == 0 ? "nothing" : row.toString();
    }
}
