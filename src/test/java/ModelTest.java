/**
 * Runs of mixed calls on VaultHands and on Model side by side: each answer is compared, and, behind the
 * last one, all that is told, as far as the 512 calls of an object go. The calls come from a fixed row of
 * numbers, so that each run is the same.
 */
public final class ModelTest {
    private static final int RUNS = 6000, CALLS = 512, MOST_MIXED = 400;
    private static final String[] NAMES = {
        "key", "vault", "hang", "link", "put", "take", "move", "split", "swap", "polish", "rounds", "sweep", "walk",
        "order", "run", "sum", "hung", "wear", "entries", "entry", "clear", "alarms", "orders"};
    private static final String[] DONE = {
        "put", "put", "take", "move", "split", "swap", "polish", "rounds", "sweep", "walk", "order", "order", "order"};
    private static final int[] EDGES = {
        Integer.MIN_VALUE, -2, -1, 0, 1, 2, 9, 10, 11, 12, 13, 39, 40, 60, 61, 399, 400, 1000, 1001, 1000000, 1000001,
        Integer.MAX_VALUE};

    private static long state;
    private static int calls;

    private static int next(int bound) {
        state = state * 6364136223846793005L + 1442695040888963407L;
        return (int) ((state >>> 33) % bound);
    }

    public static void main(String[] args) {
        for (int run = 0; run < RUNS; run++) {
            state = run;
            calls = 0;
            mixedRun(run);
        }
        Due.end();
    }

    private static void mixedRun(int run) {
        VaultHands x = new VaultHands();
        Model m = new Model();
        int size = 1 + next(12);
        int limit = next(3) == 0 ? 1000000 : 1 + next(60);
        boolean keepsBook = next(2) == 0;
        for (int i = 0; i < size; i++) {
            both(run, x, m, "key", 1 + next(next(2) == 0 ? 2 : 9), next(2), 0, 0);
            both(run, x, m, "vault", limit, 0, 0, 0);
        }
        for (int v = 0; v < size; v++) {
            both(run, x, m, "hang", v, 0, next(size), 0);
            both(run, x, m, "hang", v, 1, next(8) == 0 ? -1 : next(size), 0);
            both(run, x, m, "link", v, next(size), 0, 0);
        }
        int mixed = 1 + next(MOST_MIXED);
        for (int i = 0; i < mixed; i++) {
            mixedCall(run, x, m, size, limit, keepsBook);
        }
        told(run, x, m);
    }

    private static void mixedCall(int run, VaultHands x, Model m, int size, int limit, boolean keepsBook) {
        int kind = next(20);
        if (kind == 0) {
            both(run, x, m, NAMES[next(NAMES.length)], edge(), edge(), edge(), edge());
        } else if (kind == 1) {
            both(run, x, m, "hang", next(size), next(2), next(size + 1) - 1, 0);
        } else if (kind == 2) {
            both(run, x, m, "link", next(size), next(size + 1) - 1, 0, 0);
        } else if (kind == 3) {
            both(run, x, m, next(3) == 0 && !keepsBook ? "clear" : "run", 0, 0, 0, 0);
        } else {
            String name = DONE[next(DONE.length)];
            int n = next(limit + 2) / (1 + next(6));
            both(run, x, m, name, first(name, size), second(name, size, n), third(name, size, n), n);
        }
    }

    private static int first(String name, int size) {
        return name.equals("order") ? next(next(3) == 0 ? 5 : 4) : next(size);
    }

    private static int second(String name, int size, int n) {
        switch (name) {
            case "move": case "order": return next(size);
            case "split": return next(5);
            case "rounds": case "sweep": return 1 + next(size);
            case "walk": return 1 + next(60);
            default: return n;
        }
    }

    private static int third(String name, int size, int n) {
        switch (name) {
            case "order": return next(size);
            case "rounds": return 1 + next(6);
            case "walk": return n * (1 + next(50));
            default: return n;
        }
    }

    private static int edge() {
        return next(3) == 0 ? EDGES[next(EDGES.length)] : next(12);
    }

    private static void both(int run, VaultHands x, Model m, String name, int a, int b, int c, int d) {
        if (calls == CALLS) {
            return;
        }
        calls++;
        int got = call(x, name, a, b, c, d);
        int due = m.call(name, a, b, c, d);
        if (got != due) {
            Due.is("run " + run + ", call " + calls + ": " + name + "(" + a + ", " + b + ", " + c + ", " + d + ")", got, due);
        }
    }

    /** The latest of what is kept first: what is older was likelier looked at in a shorter run. */
    private static void told(int run, VaultHands x, Model m) {
        String[] counts = {"entries", "alarms", "orders"};
        for (String name : counts) {
            both(run, x, m, name, 0, 0, 0, 0);
        }
        for (int v = 0; v <= 12; v++) {
            both(run, x, m, "sum", v, 0, 0, 0);
            both(run, x, m, "hung", v, 0, 0, 0);
            both(run, x, m, "hung", v, 1, 0, 0);
        }
        for (int k = 0; k <= 12; k++) {
            both(run, x, m, "wear", k, 0, 0, 0);
        }
        for (int i = Math.min(400, m.call("entries", 0, 0, 0, 0)); i >= 0; i--) {
            both(run, x, m, "entry", i, 0, 0, 0);
        }
    }

    private static int call(VaultHands x, String name, int a, int b, int c, int d) {
        switch (name) {
            case "key": return x.key(a, b != 0);
            case "vault": return x.vault(a);
            case "hang": return x.hang(a, b, c);
            case "link": return x.link(a, b);
            case "put": return x.put(a, b);
            case "take": return x.take(a, b);
            case "move": return x.move(a, b, c);
            case "split": return x.split(a, b);
            case "swap": return x.swap(a);
            case "polish": return x.polish(a);
            case "rounds": return x.rounds(a, b, c);
            case "sweep": return x.sweep(a, b, c);
            case "walk": return x.walk(a, b, c);
            case "order": return x.order(a, b, c, d);
            case "run": return x.run();
            case "sum": return x.sum(a);
            case "hung": return x.hung(a, b);
            case "wear": return x.wear(a);
            case "entries": return x.entries();
            case "entry": return x.entry(a);
            case "clear": return x.clear();
            case "alarms": return x.alarms();
            case "orders": return x.orders();
            default: throw new IllegalArgumentException(name);
        }
    }
}
