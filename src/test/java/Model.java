import java.math.BigInteger;
import java.util.ArrayList;
import java.util.Comparator;
import java.util.HashMap;
import java.util.HashSet;
import java.util.List;
import java.util.Map;
import java.util.NoSuchElementException;
import java.util.Set;
import java.util.TreeMap;

/** The document told a second time, in the slowest and plainest way, to compare the class with. */
final class Model {
    private static final Map<List<Integer>, Set<List<Integer>>> SAFE = new HashMap<>();

    private static final class Client {
        int id;
        int span;
        int waited;
        int worst;
    }

    private TreeMap<Integer, Client> present = new TreeMap<>();
    private TreeMap<Integer, Client> coming = null;
    private List<Integer> cycle = new ArrayList<>(List.of(0));
    private List<Integer> comingCycle = null;
    private int builder = 0;
    private int comingBuilder = 0;
    private int next = 0;
    private int wished = 0;
    private int vain = 0;
    private int slots = 0;

    int ask(int id, int span) {
        if (id < 1 || id > 999 || span < 1 || span > 40 || present.containsKey(id)) {
            throw new IllegalArgumentException();
        }
        if (coming != null) {
            throw new IllegalStateException();
        }
        if (present.size() == 10) {
            throw new UnsupportedOperationException();
        }
        TreeMap<Integer, Client> set = new TreeMap<>(present);
        Client client = new Client();
        client.id = id;
        client.span = span;
        set.put(id, client);
        return change(set);
    }

    int drop(int id) {
        find(id);
        if (coming != null) {
            throw new IllegalStateException();
        }
        TreeMap<Integer, Client> set = new TreeMap<>(present);
        set.remove(id);
        return change(set);
    }

    int slot() {
        if (coming != null) {
            int seam = seam();
            if (seam < 0) {
                vain++;
            } else {
                present = coming;
                cycle = comingCycle;
                builder = comingBuilder;
                next = seam;
                coming = null;
                if (!present.containsKey(wished)) {
                    wished = 0;
                }
            }
        }
        slots++;
        int served = cycle.get(next);
        next = (next + 1) % cycle.size();
        if (served == 0) {
            served = wished;
            wished = 0;
        }
        for (Client client : present.values()) {
            client.waited = client.id == served ? 0 : client.waited + 1;
            client.worst = Math.max(client.worst, client.waited);
        }
        return served;
    }

    int wish(int id) {
        find(id);
        if (wished != 0) {
            throw new IllegalStateException();
        }
        wished = id;
        return 0;
    }

    int waited(int id) {
        return find(id).waited;
    }

    int worst(int id) {
        return find(id).worst;
    }

    int span(int id) {
        return find(id).span;
    }

    int cycle(boolean waiting, int i) {
        if (waiting && coming == null) {
            throw new IllegalStateException();
        }
        List<Integer> row = waiting ? comingCycle : cycle;
        if (i < -1 || i >= row.size()) {
            throw new IndexOutOfBoundsException();
        }
        return i == -1 ? row.size() : row.get(i);
    }

    int about(int what) {
        if (what < 0 || what > 6) {
            throw new IllegalArgumentException();
        }
        int[] all = {builder, coming == null ? -1 : comingBuilder, present.size(), wished, next, vain, slots};
        return all[what];
    }

    int client(int k) {
        if (k < 0 || k >= present.size()) {
            throw new IndexOutOfBoundsException();
        }
        return new ArrayList<>(present.keySet()).get(k);
    }

    long density(int part) {
        if (part != 0 && part != 1) {
            throw new IllegalArgumentException();
        }
        BigInteger bottom = BigInteger.ONE;
        for (Client client : present.values()) {
            bottom = bottom.multiply(BigInteger.valueOf(client.span));
        }
        BigInteger top = BigInteger.ZERO;
        for (Client client : present.values()) {
            top = top.add(bottom.divide(BigInteger.valueOf(client.span)));
        }
        return (part == 0 ? top : bottom).divide(top.gcd(bottom)).longValueExact();
    }

    int feasible() {
        List<Client> order = bySpans(present);
        if (order.size() > 4 || product(order) > 1500) {
            return -1;
        }
        return order.isEmpty() || safe(spans(order)).contains(spans(order)) ? 1 : 0;
    }

    private Client find(int id) {
        Client client = present.get(id);
        if (client == null) {
            throw new NoSuchElementException();
        }
        return client;
    }

    private int change(TreeMap<Integer, Client> set) {
        List<Integer> row = lay(set, 1);
        int by = 1;
        for (int base = 3; row == null && base <= 15; base += 2) {
            by = 2;
            row = lay(set, base);
        }
        if (row == null) {
            by = 3;
            row = layByStates(set);
        }
        if (row == null) {
            throw new UnsupportedOperationException();
        }
        coming = set;
        comingCycle = row;
        comingBuilder = by;
        return by;
    }

    private int seam() {
        for (int p = 0; p < comingCycle.size(); p++) {
            boolean good = true;
            for (Client client : coming.values()) {
                int d = 0;
                while (comingCycle.get((p + d) % comingCycle.size()) != client.id) {
                    d++;
                }
                int w = present.containsKey(client.id) ? client.waited : 0;
                good &= w + d < client.span;
            }
            if (good) {
                return p;
            }
        }
        return -1;
    }

    private static List<Integer> lay(TreeMap<Integer, Client> set, int base) {
        TreeMap<Integer, Integer> rounded = new TreeMap<>();
        int length = 1;
        for (Client client : set.values()) {
            if (base > client.span) {
                return null;
            }
            int r = base;
            while (2 * r <= client.span) {
                r *= 2;
            }
            rounded.put(client.id, r);
            length = Math.max(length, r);
        }
        int whole = base * 64;
        int sum = 0;
        for (int r : rounded.values()) {
            sum += whole / r;
        }
        if (sum > whole) {
            return null;
        }
        List<Client> order = new ArrayList<>(set.values());
        order.sort(Comparator.<Client>comparingInt(c -> rounded.get(c.id)).thenComparingInt(c -> c.id));
        Integer[] row = new Integer[length];
        java.util.Arrays.fill(row, 0);
        for (Client client : order) {
            int first = java.util.Arrays.asList(row).indexOf(0);
            for (int at = 0; at < length; at++) {
                if (at >= first && (at - first) % rounded.get(client.id) == 0) {
                    row[at] = client.id;
                }
            }
        }
        return new ArrayList<>(List.of(row));
    }

    private static List<Integer> layByStates(TreeMap<Integer, Client> set) {
        List<Client> order = bySpans(set);
        if (order.size() > 4 || product(order) > 1500) {
            return null;
        }
        Set<List<Integer>> safe = safe(spans(order));
        List<Integer> state = spans(order);
        if (!safe.contains(state)) {
            return null;
        }
        List<List<Integer>> seen = new ArrayList<>();
        List<Integer> served = new ArrayList<>();
        while (!seen.contains(state)) {
            seen.add(state);
            for (int k = 0; k < order.size(); k++) {
                List<Integer> after = after(state, k, spans(order));
                if (safe.contains(after)) {
                    served.add(order.get(k).id);
                    state = after;
                    break;
                }
            }
        }
        return new ArrayList<>(served.subList(seen.indexOf(state), served.size()));
    }

    private static List<Client> bySpans(TreeMap<Integer, Client> set) {
        List<Client> order = new ArrayList<>(set.values());
        order.sort(Comparator.<Client>comparingInt(c -> c.span).thenComparingInt(c -> c.id));
        return order;
    }

    private static List<Integer> spans(List<Client> order) {
        List<Integer> spans = new ArrayList<>();
        for (Client client : order) {
            spans.add(client.span);
        }
        return spans;
    }

    private static long product(List<Client> order) {
        long product = 1;
        for (Client client : order) {
            product *= client.span;
        }
        return product;
    }

    private static Set<List<Integer>> safe(List<Integer> spans) {
        Set<List<Integer>> safe = SAFE.get(spans);
        if (safe != null) {
            return safe;
        }
        safe = new HashSet<>(allStates(spans));
        boolean changed = true;
        while (changed) {
            Set<List<Integer>> kept = new HashSet<>();
            for (List<Integer> state : safe) {
                for (int k = 0; k < spans.size(); k++) {
                    if (safe.contains(after(state, k, spans))) {
                        kept.add(state);
                    }
                }
            }
            changed = kept.size() < safe.size();
            safe = kept;
        }
        SAFE.put(spans, safe);
        return safe;
    }

    private static List<List<Integer>> allStates(List<Integer> spans) {
        List<List<Integer>> all = new ArrayList<>();
        all.add(new ArrayList<>());
        for (int span : spans) {
            List<List<Integer>> longer = new ArrayList<>();
            for (List<Integer> state : all) {
                for (int number = 1; number <= span; number++) {
                    List<Integer> more = new ArrayList<>(state);
                    more.add(number);
                    longer.add(more);
                }
            }
            all = longer;
        }
        return all;
    }

    /** With a 0 in it, which no state has, if that may not be. */
    private static List<Integer> after(List<Integer> state, int served, List<Integer> spans) {
        List<Integer> after = new ArrayList<>();
        for (int k = 0; k < state.size(); k++) {
            after.add(k == served ? spans.get(k) : state.get(k) - 1);
        }
        return after;
    }
}
