import java.util.Arrays;
import java.util.NoSuchElementException;

/**
 * A server with one service a slot, gone through by a cycle of places; clients come and go
 * at seams, so that nobody ever waits as long as its span.
 */
public final class PinwheelKernel {
    public static final int NONE = -1;

    private static final int NOBODY = 0;
    private static final int GREATEST_ID = 999;
    private static final int GREATEST_SPAN = 40;
    private static final int MOST_CLIENTS = 10;
    private static final int MOST_EXACT_CLIENTS = 4;
    private static final int MOST_STATES = 1500;
    private static final int MOST_DOUBLINGS = 6;
    private static final int MOST_DIVISIONS = 100;
    private static final int[] BASES = {3, 5, 7, 9, 11, 13, 15};

    private final RoundingBuilder rounding = new RoundingBuilder();
    private StateBuilder states = null;
    private Clients present = new Clients();
    private Clients planned = new Clients();
    private Cycle inForce = new Cycle();
    private Cycle spare = new Cycle();
    private boolean spareWaits = false;
    private int place = 0;
    private int wished = NOBODY;
    private int vainLooks = 0;
    private int slots = 0;

    public PinwheelKernel() {
    }

    public int ask(int id, int span)
            throws IllegalArgumentException, IllegalStateException, UnsupportedOperationException {
        if (id < 1 || id > GREATEST_ID || span < 1 || span > GREATEST_SPAN || present.find(id) != NONE) {
            throw new IllegalArgumentException();
        }
        if (spareWaits) {
            throw new IllegalStateException();
        }
        if (present.count() >= MOST_CLIENTS) {
            throw new UnsupportedOperationException();
        }
        planned.copyFrom(present);
        planned.insert(id, span);
        int builder = layPlanned();
        if (builder == NONE) {
            throw new UnsupportedOperationException();
        }
        return letWait(builder);
    }

    public int drop(int id) throws NoSuchElementException, IllegalStateException {
        int leaving = indexOf(id);
        if (spareWaits) {
            throw new IllegalStateException();
        }
        planned.copyFrom(present);
        planned.removeAt(leaving);
        // What laid a cycle for a set never fails for a part of it, so this is never NONE.
        return letWait(layPlanned());
    }

    public int slot() {
        if (spareWaits) {
            lookForSeam();
        }
        int served = inForce.idAt(place);
        if (served == NOBODY) {
            served = wished;
            wished = NOBODY;
        }
        present.passSlot(served);
        place = inForce.placeAfter(place);
        slots++;
        return served;
    }

    public void wish(int id) throws NoSuchElementException, IllegalStateException {
        indexOf(id);
        if (wished != NOBODY) {
            throw new IllegalStateException();
        }
        wished = id;
    }

    public int waited(int id) throws NoSuchElementException {
        return present.waitAt(indexOf(id));
    }

    public int worst(int id) throws NoSuchElementException {
        return present.worstAt(indexOf(id));
    }

    public int span(int id) throws NoSuchElementException {
        return present.spanAt(indexOf(id));
    }

    public int cycle(boolean waiting, int i) throws IllegalStateException, IndexOutOfBoundsException {
        if (waiting && !spareWaits) {
            throw new IllegalStateException();
        }
        Cycle chosen = waiting ? spare : inForce;
        if (i == NONE) {
            return chosen.length();
        }
        if (i < 0 || i >= chosen.length()) {
            throw new IndexOutOfBoundsException();
        }
        return chosen.idAt(i);
    }

    public int about(int what) throws IllegalArgumentException {
        switch (what) {
            case 0:
                return inForce.builder();
            case 1:
                return spareWaits ? spare.builder() : NONE;
            case 2:
                return present.count();
            case 3:
                return wished;
            case 4:
                return place;
            case 5:
                return vainLooks;
            case 6:
                return slots;
            default:
                throw new IllegalArgumentException();
        }
    }

    public int client(int k) throws IndexOutOfBoundsException {
        if (k < 0 || k >= present.count()) {
            throw new IndexOutOfBoundsException();
        }
        return present.idAt(k);
    }

    public long density(int part) throws IllegalArgumentException {
        if (part != 0 && part != 1) {
            throw new IllegalArgumentException();
        }
        long numerator = 0;
        long denominator = 1;
        for (int k = 0; k < present.count(); k++) {
            numerator = numerator * present.spanAt(k) + denominator;
            denominator = denominator * present.spanAt(k);
            // Reduced at every step, so that ten spans don't outgrow a long.
            long divisor = commonDivisor(numerator, denominator);
            numerator /= divisor;
            denominator /= divisor;
        }
        return part == 0 ? numerator : denominator;
    }

    public int feasible() {
        if (present.count() == 0) {
            return 1;
        }
        StateBuilder builder = stateBuilder();
        if (!builder.takes(present)) {
            return NONE;
        }
        return builder.startsSafe() ? 1 : 0;
    }

    private int indexOf(int id) {
        int k = present.find(id);
        if (k == NONE) {
            throw new NoSuchElementException();
        }
        return k;
    }

    /** Which builder laid a cycle for the planned clients into the spare one; NONE if all fail. */
    private int layPlanned() {
        if (rounding.layByPowers(planned, spare)) {
            return 1;
        }
        if (rounding.layByBases(planned, spare)) {
            return 2;
        }
        return stateBuilder().lay(planned, spare) ? 3 : NONE;
    }

    private int letWait(int builder) {
        spare.setBuilder(builder);
        spareWaits = true;
        return builder;
    }

    private void lookForSeam() {
        planned.takeTimesFrom(present);
        int seam = spare.seamFor(planned);
        if (seam == NONE) {
            vainLooks++;
        } else {
            goOver(seam);
        }
    }

    private void goOver(int seam) {
        Clients oldClients = present;
        present = planned;
        planned = oldClients;
        Cycle oldCycle = inForce;
        inForce = spare;
        spare = oldCycle;
        spareWaits = false;
        place = seam;
        if (present.find(wished) == NONE) {
            wished = NOBODY;
        }
    }

    /** Made only when it is needed: its rows are by far the greatest part of an object. */
    private StateBuilder stateBuilder() {
        if (states == null) {
            states = new StateBuilder();
        }
        return states;
    }

    /** The greatest common divisor of two positive numbers. */
    private static long commonDivisor(long a, long b) {
        long greater = a;
        long less = b;
        for (int step = 0; step < MOST_DIVISIONS && less != 0; step++) {
            long rest = greater % less;
            greater = less;
            less = rest;
        }
        return greater > 0 ? greater : 1;
    }

    /** A set of clients in the order of their ids, with how long each has waited. */
    private static final class Clients {
        private final int[] ids = new int[MOST_CLIENTS];
        private final int[] spans = new int[MOST_CLIENTS];
        private final int[] waits = new int[MOST_CLIENTS];
        private final int[] worsts = new int[MOST_CLIENTS];
        private int count = 0;

        int count() {
            return count;
        }

        int idAt(int k) {
            return ids[k];
        }

        int spanAt(int k) {
            return spans[k];
        }

        int waitAt(int k) {
            return waits[k];
        }

        int worstAt(int k) {
            return worsts[k];
        }

        int find(int id) {
            for (int k = 0; k < count; k++) {
                if (ids[k] == id) {
                    return k;
                }
            }
            return NONE;
        }

        int leastSpan() {
            int least = GREATEST_SPAN;
            for (int k = 0; k < count; k++) {
                least = Math.min(least, spans[k]);
            }
            return least;
        }

        void copyFrom(Clients other) {
            count = other.count;
            for (int k = 0; k < count; k++) {
                copyAt(k, other, k);
            }
        }

        /** Only for a set that has room left. */
        void insert(int id, int span) {
            int at = count;
            while (at > 0 && ids[at - 1] > id) {
                copyAt(at, this, at - 1);
                at--;
            }
            ids[at] = id;
            spans[at] = span;
            waits[at] = 0;
            worsts[at] = 0;
            count++;
        }

        void removeAt(int k) {
            count--;
            for (int at = k; at < count; at++) {
                copyAt(at, this, at + 1);
            }
        }

        /** Who isn't in the other set is new and keeps its zeros. */
        void takeTimesFrom(Clients other) {
            for (int k = 0; k < count; k++) {
                int from = other.find(ids[k]);
                if (from != NONE) {
                    copyAt(k, other, from);
                }
            }
        }

        void passSlot(int served) {
            for (int k = 0; k < count; k++) {
                waits[k] = ids[k] == served ? 0 : waits[k] + 1;
                worsts[k] = Math.max(worsts[k], waits[k]);
            }
        }

        private void copyAt(int at, Clients other, int from) {
            ids[at] = other.ids[from];
            spans[at] = other.spans[from];
            waits[at] = other.waits[from];
            worsts[at] = other.worsts[from];
        }
    }

    /** A row of places that is gone through over and over, and who laid it. */
    private static final class Cycle {
        private int[] places = new int[GREATEST_SPAN];
        private int length = 1;
        private int builder = 0;

        int length() {
            return length;
        }

        int builder() {
            return builder;
        }

        int idAt(int at) {
            return places[at];
        }

        int placeAfter(int at) {
            return at + 1 < length ? at + 1 : 0;
        }

        void setBuilder(int number) {
            builder = number;
        }

        void clear(int newLength) {
            makeRoom(newLength);
            Arrays.fill(places, 0, length, NOBODY);
        }

        void copyFrom(int[] row, int from, int newLength) {
            makeRoom(newLength);
            System.arraycopy(row, from, places, 0, length);
        }

        /** To the first free place, and to every one that lies a multiple of the step behind it. */
        void giveTo(int id, int step) {
            for (int at = firstFree(); step > 0 && at < length; at += step) {
                places[at] = id;
            }
        }

        int seamFor(Clients clients) {
            for (int at = 0; at < length; at++) {
                if (canGoOnFrom(at, clients)) {
                    return at;
                }
            }
            return NONE;
        }

        private boolean canGoOnFrom(int at, Clients clients) {
            for (int k = 0; k < clients.count(); k++) {
                if (!comesWithin(clients.spanAt(k) - clients.waitAt(k), at, clients.idAt(k))) {
                    return false;
                }
            }
            return true;
        }

        private boolean comesWithin(int many, int from, int id) {
            int at = from;
            for (int ahead = 0; ahead < many; ahead++) {
                if (places[at] == id) {
                    return true;
                }
                at = placeAfter(at);
            }
            return false;
        }

        private int firstFree() {
            int at = 0;
            while (at < length && places[at] != NOBODY) {
                at++;
            }
            return at;
        }

        private void makeRoom(int newLength) {
            if (newLength > places.length) {
                places = new int[newLength];
            }
            length = newLength;
        }
    }

    /** Builders 1 and 2: spans rounded down to a base times a power of two. */
    private static final class RoundingBuilder {
        private final int[] rounded = new int[MOST_CLIENTS];

        boolean layByPowers(Clients clients, Cycle into) {
            return layWithBase(1, clients, into);
        }

        boolean layByBases(Clients clients, Cycle into) {
            int least = clients.leastSpan();
            for (int k = 0; k < BASES.length && BASES[k] <= least; k++) {
                if (layWithBase(BASES[k], clients, into)) {
                    return true;
                }
            }
            return false;
        }

        private boolean layWithBase(int base, Clients clients, Cycle into) {
            int length = roundAll(base, clients);
            if (placesNeeded(clients.count(), length) > length) {
                return false;
            }
            into.clear(length);
            // Doubling from the base on meets every rounded span, the least first.
            int step = base;
            for (int k = 0; k <= MOST_DOUBLINGS && step <= length; k++) {
                giveToAllWith(step, clients, into);
                step *= 2;
            }
            return true;
        }

        /** The greatest rounded span, 1 for no clients. */
        private int roundAll(int base, Clients clients) {
            int greatest = 1;
            for (int k = 0; k < clients.count(); k++) {
                rounded[k] = roundDown(clients.spanAt(k), base);
                greatest = Math.max(greatest, rounded[k]);
            }
            return greatest;
        }

        /** Every rounded span divides the greatest, so this tells the sum of 1 by them without fractions. */
        private int placesNeeded(int count, int length) {
            int needed = 0;
            for (int k = 0; k < count; k++) {
                needed += rounded[k] > 0 ? length / rounded[k] : 0;
            }
            return needed;
        }

        /** The clients stand in the order of their ids, so among equals the least id comes first. */
        private void giveToAllWith(int step, Clients clients, Cycle into) {
            for (int k = 0; k < clients.count(); k++) {
                if (rounded[k] == step) {
                    into.giveTo(clients.idAt(k), step);
                }
            }
        }

        /** For a base that is 1 or more and not above the span. */
        private static int roundDown(int span, int base) {
            int result = base;
            for (int k = 0; k < MOST_DOUBLINGS && result * 2 <= span; k++) {
                result *= 2;
            }
            return result;
        }
    }

    /**
     * Builder 3. A state is one number: for each client one digit, of weight weights[k], that is
     * one less than the number of slots within which that client must be served.
     */
    private static final class StateBuilder {
        private final int[] ids = new int[MOST_EXACT_CLIENTS];
        private final int[] spans = new int[MOST_EXACT_CLIENTS];
        private final int[] weights = new int[MOST_EXACT_CLIENTS];
        private int count = 0;
        private int stateCount = 1;
        private int allWeights = 0;
        /** For each state, how many clients can be served in it so that a state comes not known as unsafe. */
        private final int[] waysOn = new int[MOST_STATES];
        private final int[] unsafe = new int[MOST_STATES];
        private int unsafeCount = 0;
        private final int[] firstTimes = new int[MOST_STATES];
        private final int[] served = new int[MOST_STATES];

        boolean lay(Clients clients, Cycle into) {
            if (!takes(clients) || !startsSafe()) {
                return false;
            }
            Arrays.fill(firstTimes, 0, stateCount, NONE);
            int state = stateCount - 1;
            int time = 0;
            while (time < stateCount && firstTimes[state] == NONE) {
                int turn = firstSafeTurn(state);
                firstTimes[state] = time;
                served[time] = ids[turn];
                state = stateAfter(state, turn);
                time++;
            }
            into.copyFrom(served, firstTimes[state], time - firstTimes[state]);
            return true;
        }

        /** Whether there are few enough clients and states; if so, they are the ones looked at from now on. */
        boolean takes(Clients clients) {
            if (clients.count() > MOST_EXACT_CLIENTS) {
                return false;
            }
            int product = 1;
            for (int k = 0; k < clients.count(); k++) {
                product *= clients.spanAt(k);
            }
            if (product > MOST_STATES) {
                return false;
            }
            stateCount = product;
            takeInOrder(clients);
            weigh();
            return true;
        }

        /** Whether the state of the full spans is safe; strikes all unsafe ones to tell. */
        boolean startsSafe() {
            listDeadEnds();
            // Who thereby loses the last way on is unsafe too, and is put at the end of the list.
            for (int k = 0; k < stateCount && k < unsafeCount; k++) {
                strikeWaysTo(unsafe[k]);
            }
            return waysOn[stateCount - 1] > 0;
        }

        /** They come in the order of their ids, which stays among equal spans. */
        private void takeInOrder(Clients clients) {
            count = clients.count();
            for (int k = 0; k < count; k++) {
                int at = k;
                while (at > 0 && spans[at - 1] > clients.spanAt(k)) {
                    spans[at] = spans[at - 1];
                    ids[at] = ids[at - 1];
                    at--;
                }
                spans[at] = clients.spanAt(k);
                ids[at] = clients.idAt(k);
            }
        }

        private void weigh() {
            int weight = 1;
            allWeights = 0;
            for (int k = 0; k < count; k++) {
                weights[k] = weight;
                allWeights += weight;
                weight *= spans[k];
            }
        }

        private void listDeadEnds() {
            unsafeCount = 0;
            for (int state = 0; state < stateCount; state++) {
                waysOn[state] = countWaysOn(state);
                if (waysOn[state] == 0) {
                    unsafe[unsafeCount++] = state;
                }
            }
        }

        /** One client that must be served at once is the only way on; with two such there is none. */
        private int countWaysOn(int state) {
            int urgent = 0;
            for (int k = 0; k < count; k++) {
                if (digit(state, k) == 0) {
                    urgent++;
                }
            }
            if (urgent == 0) {
                return count;
            }
            return urgent == 1 ? 1 : 0;
        }

        private void strikeWaysTo(int state) {
            for (int turn = 0; turn < count; turn++) {
                if (canComeFrom(state, turn)) {
                    int before = state + allWeights - weights[turn] * spans[turn];
                    // Whatever the served client's number was, it is the full span now.
                    for (int number = 0; number < spans[turn]; number++) {
                        strikeOneWay(before + number * weights[turn]);
                    }
                }
            }
        }

        private void strikeOneWay(int state) {
            waysOn[state]--;
            if (waysOn[state] == 0) {
                unsafe[unsafeCount++] = state;
            }
        }

        /** Whether nobody else must be served in this very slot. */
        private boolean canServe(int state, int turn) {
            for (int k = 0; k < count; k++) {
                if (k != turn && digit(state, k) == 0) {
                    return false;
                }
            }
            return true;
        }

        /** Whether this state comes when that client is served: its number is full and no other one's is. */
        private boolean canComeFrom(int state, int turn) {
            for (int k = 0; k < count; k++) {
                boolean full = digit(state, k) == spans[k] - 1;
                if (full != (k == turn)) {
                    return false;
                }
            }
            return true;
        }

        /** For a turn that can be served. */
        private int stateAfter(int state, int turn) {
            int rise = spans[turn] - digit(state, turn);
            return state - allWeights + weights[turn] * rise;
        }

        /** For a safe state: one of the turns always leads on. */
        private int firstSafeTurn(int state) {
            int turn = 0;
            while (turn < count - 1 && !leadsToSafe(state, turn)) {
                turn++;
            }
            return turn;
        }

        private boolean leadsToSafe(int state, int turn) {
            return canServe(state, turn) && waysOn[stateAfter(state, turn)] > 0;
        }

        private int digit(int state, int k) {
            return weights[k] > 0 && spans[k] > 0 ? state / weights[k] % spans[k] : 0;
        }
    }
}
