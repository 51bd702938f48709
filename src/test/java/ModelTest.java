import java.util.Random;
import java.util.function.LongSupplier;

/** All promises: long runs of calls, each answer compared with the model's. The seeds are fixed. */
public final class ModelTest {
    private static final int CALLS = 512;
    private static final int[] EDGES = {Integer.MIN_VALUE, -2, -1, 0, 7, 1000, Integer.MAX_VALUE};
    /** Clients that only builder 3 takes together. */
    private static final int[][] EXACT = {
        {6, 6, 6, 2}, {14, 6, 6, 2}, {20, 6, 6, 2}, {22, 5, 4, 3}, {25, 5, 4, 3}, {16, 5, 5, 3}, {8, 6, 6, 2},
    };

    private final Check check;
    private final int seed;
    private final Random random;
    private final PinwheelKernel x = new PinwheelKernel();
    private final Model model = new Model();
    private final int[] spans;
    private int calls = 0;

    private ModelTest(Check check, int seed, int[] spans) {
        this.check = check;
        this.seed = seed;
        this.random = new Random(seed);
        this.spans = spans;
    }

    public static void main(String[] args) {
        Check check = new Check();
        int[] builders = new int[4];
        int vain = 0;
        int mostPresent = 0;
        for (int seed = 0; seed < 3000; seed++) {
            ModelTest run = new ModelTest(check, seed, seed % 3 == 0 ? EXACT[seed / 3 % EXACT.length] : ranges(seed));
            for (int call = 0; call < CALLS; call++) {
                run.step();
                builders[run.model.about(0)]++;
                mostPresent = Math.max(mostPresent, run.model.about(2));
            }
            vain += run.model.about(5);
        }
        // Runs that never came to these would tell nothing of them.
        check.due("builder 2 and 3 were in force", 1, builders[2] > 1000 && builders[3] > 1000 ? 1 : 0);
        check.due("seams were looked for in vain", 1, vain > 100 ? 1 : 0);
        check.due("most clients present", 10, mostPresent);
        check.end("ModelTest");
    }

    /** Spans to choose from: small ones, great ones, or any. */
    private static int[] ranges(int seed) {
        Random random = new Random(seed);
        int least = 1 + random.nextInt(20);
        int[] spans = new int[20];
        for (int k = 0; k < spans.length; k++) {
            spans[k] = Math.min(40, least + random.nextInt(1 + seed % 40));
        }
        return spans;
    }

    private void step() {
        int choice = random.nextInt(100);
        if (choice < 40) {
            compare("slot()", x::slot, model::slot);
        } else if (choice < 54) {
            ask();
        } else if (choice < 60) {
            int id = id();
            compare("drop(" + id + ")", () -> x.drop(id), () -> model.drop(id));
        } else if (choice < 65) {
            wish();
        } else {
            look();
        }
    }

    private void ask() {
        int id = id();
        int span = random.nextInt(20) == 0 ? edge() : spans[random.nextInt(spans.length)];
        compare("ask(" + id + ", " + span + ")", () -> x.ask(id, span), () -> model.ask(id, span));
    }

    private void wish() {
        int id = id();
        compare("wish(" + id + ")", () -> {
            x.wish(id);
            return 0;
        }, () -> model.wish(id));
    }

    private void look() {
        int id = id();
        int k = random.nextInt(20) == 0 ? edge() : random.nextInt(7);
        int i = random.nextInt(20) == 0 ? edge() : random.nextInt(34) - 1;
        boolean waiting = random.nextBoolean();
        switch (random.nextInt(8)) {
            case 0 -> compare("waited(" + id + ")", () -> x.waited(id), () -> model.waited(id));
            case 1 -> compare("worst(" + id + ")", () -> x.worst(id), () -> model.worst(id));
            case 2 -> compare("span(" + id + ")", () -> x.span(id), () -> model.span(id));
            case 3 -> compare("cycle(" + waiting + ", " + i + ")",
                    () -> x.cycle(waiting, i), () -> model.cycle(waiting, i));
            case 4 -> compare("about(" + k + ")", () -> x.about(k), () -> model.about(k));
            case 5 -> compare("client(" + k + ")", () -> x.client(k), () -> model.client(k));
            case 6 -> compare("density(" + k % 2 + ")", () -> x.density(k % 2), () -> model.density(k % 2));
            default -> compare("feasible()", x::feasible, model::feasible);
        }
    }

    private int id() {
        if (random.nextInt(30) == 0) {
            return edge();
        }
        return random.nextInt(3) == 0 ? 985 + random.nextInt(15) : 1 + random.nextInt(9);
    }

    private int edge() {
        return EDGES[random.nextInt(EDGES.length)];
    }

    private void compare(String call, LongSupplier asked, LongSupplier due) {
        calls++;
        check.dueText("seed " + seed + ", call " + calls + ": " + call, outcome(due), outcome(asked));
    }

    private static String outcome(LongSupplier call) {
        try {
            return Long.toString(call.getAsLong());
        } catch (RuntimeException e) {
            return e.getClass().getSimpleName();
        }
    }
}
