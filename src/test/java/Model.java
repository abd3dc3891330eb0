import java.util.ArrayList;
import java.util.List;

/**
 * A second reading of the document, built another way than the class: a KEY is let go where the block
 * that TURNED it is left, so that blocks lie one within the other, and an end ahead of the block's own
 * is an exception.
 */
final class Model {
    private static final int END = 200, ANSWER = 300, STOP = 400, SKIP = 500, ALARM = 600;

    private static final class Key {
        int number, teeth, wear, held;
        boolean master;
    }

    private static final class Vault {
        int sum, limit;
        Vault next;
        Key[] hands = new Key[2];
        int number;
    }

    /** An end of a block; reason is what the ENTRY of each KEY is to say. */
    private static final class Leave extends RuntimeException {
        private static final long serialVersionUID = 1L;
        final int reason, answer;

        Leave(int reason, int answer) {
            super(null, null, false, false);
            this.reason = reason;
            this.answer = answer;
        }
    }

    private interface Body {
        int go();
    }

    private final List<Key> keys = new ArrayList<>();
    private final List<Vault> vaults = new ArrayList<>();
    private final List<Integer> book = new ArrayList<>();
    private final List<int[]> tray = new ArrayList<>();
    private int alarms = 0;

    int call(String name, int a, int b, int c, int d) {
        switch (name) {
            case "key": return key(a, b != 0);
            case "vault": return vault(a);
            case "hang": return hang(a, b, c);
            case "link": return link(a, b);
            case "order": return order(a, b, c, d);
            case "run": return run();
            case "sum": return isVault(a) ? vaults.get(a).sum : -2;
            case "hung": return isVault(a) && (b == 0 || b == 1) ? number(vaults.get(a).hands[b]) : -2;
            case "wear": return isKey(a) ? keys.get(a).wear : -2;
            case "entries": return book.size();
            case "entry": return a >= 0 && a < Math.min(400, book.size()) ? book.get(a) : -1;
            case "clear": int many = book.size(); book.clear(); return many;
            case "alarms": return alarms;
            case "orders": return tray.size();
            default: return isBad(name, a, b, c) ? -2 : doing(name, a, b, c);
        }
    }

    private boolean isKey(int k) {
        return k >= 0 && k < keys.size();
    }

    private boolean isVault(int v) {
        return v >= 0 && v < vaults.size();
    }

    private static int number(Key k) {
        return k == null ? -1 : k.number;
    }

    private int key(int teeth, boolean master) {
        if (teeth < 1 || teeth > 9) return -2;
        if (keys.size() == 40) return -3;
        Key k = new Key();
        k.number = keys.size();
        k.teeth = teeth;
        k.master = master;
        keys.add(k);
        return k.number;
    }

    private int vault(int limit) {
        if (limit < 0 || limit > 1000000) return -2;
        if (vaults.size() == 12) return -3;
        Vault v = new Vault();
        v.number = vaults.size();
        v.limit = limit;
        vaults.add(v);
        return v.number;
    }

    private int hang(int v, int hand, int k) {
        if (!isVault(v) || hand < 0 || hand > 1 || (k != -1 && !isKey(k))) return -2;
        int before = number(vaults.get(v).hands[hand]);
        vaults.get(v).hands[hand] = k == -1 ? null : keys.get(k);
        return before;
    }

    private int link(int v, int w) {
        if (!isVault(v) || (w != -1 && !isVault(w))) return -2;
        Vault before = vaults.get(v).next;
        vaults.get(v).next = w == -1 ? null : vaults.get(w);
        return before == null ? -1 : before.number;
    }

    private boolean isBad(String name, int a, int b, int c) {
        switch (name) {
            case "put": case "take": return !isVault(a) || b < 0 || b > 1000000;
            case "move": return !isVault(a) || !isVault(b) || c < 0 || c > 1000000;
            case "split": return !isVault(a) || b < 0 || b > 1000;
            case "swap": return !isVault(a);
            case "polish": return !isKey(a);
            case "rounds": return !isRow(a, b) || c < 1 || c > 12;
            case "sweep": return !isRow(a, b) || c < 1 || c > 1000000;
            case "walk": return !isVault(a) || b < 1 || b > 60 || c < 0;
            default: throw new IllegalArgumentException(name);
        }
    }

    private boolean isRow(int from, int many) {
        return isVault(from) && many >= 1 && many <= 12 && isVault(from + many - 1);
    }

    /** What leaves the outermost block is the call's answer. */
    private int doing(String name, int a, int b, int c) {
        try {
            switch (name) {
                case "put": return both(vaults.get(a), () -> putIn(vaults.get(a), b));
                case "take": return both(vaults.get(a), () -> takeOut(vaults.get(a), b));
                case "move":
                    return both(vaults.get(a), () -> both(vaults.get(b), () -> moved(vaults.get(a), vaults.get(b), c)));
                case "split": return both(vaults.get(a), () -> parted(vaults.get(a), b));
                case "swap": return both(vaults.get(a), () -> swapped(vaults.get(a)));
                case "polish": return holding(keys.get(a), () -> polished(keys.get(a)));
                case "rounds": return rounds(a, b, c);
                case "sweep": return sweep(a, b, c);
                case "walk": return walk(vaults.get(a), b, c, 0);
                default: throw new IllegalArgumentException(name);
            }
        } catch (Leave leave) {
            return leave.answer;
        }
    }

    private int holding(Key k, Body body) {
        if (k.held == k.teeth) {
            book.add(700 + k.number);
            throw alarm(-7);
        }
        k.wear += k.master ? 2 : 1;
        k.held++;
        book.add(100 + k.number);
        int reason = END;
        try {
            return body.go();
        } catch (Leave leave) {
            reason = leave.reason;
            throw leave;
        } finally {
            k.held--;
            book.add(reason + k.number);
        }
    }

    private Leave alarm(int answer) {
        alarms++;
        return new Leave(ALARM, answer);
    }

    /** If the HAND is BARE, the body is not gone to: the way to leave is told instead. */
    private int hand(Vault v, int hand, Leave bare, Body body) {
        if (v.hands[hand] == null) {
            book.add(10 + hand);
            throw bare;
        }
        return holding(v.hands[hand], body);
    }

    private int both(Vault v, Body body) {
        Leave missing = new Leave(ANSWER, -4);
        return hand(v, 0, missing, () -> hand(v, 1, missing, body));
    }

    private static int putIn(Vault v, int n) {
        if (v.sum + n > v.limit) throw new Leave(ANSWER, -5);
        return v.sum += n;
    }

    private int takeOut(Vault v, int n) {
        if (v.sum < n) throw alarm(-6);
        return v.sum -= n;
    }

    private int moved(Vault a, Vault b, int n) {
        if (a.sum < n) throw alarm(-6);
        if (b.sum + n > b.limit) throw new Leave(ANSWER, -5);
        a.sum -= n;
        b.sum += n;
        return a.sum;
    }

    private int parted(Vault v, int parts) {
        if (parts == 0) throw alarm(-8);
        return v.sum / parts;
    }

    private static int swapped(Vault v) {
        Key left = v.hands[0];
        v.hands[0] = v.hands[1];
        v.hands[1] = left;
        return v.hands[0].number;
    }

    private static int polished(Key k) {
        int worn = k.wear;
        k.wear = 0;
        return worn;
    }

    private int rounds(int from, int many, int n) {
        int[] less = {0};
        for (int i = 0; i < many; i++) {
            Vault v = vaults.get(from + i);
            try {
                hand(v, 0, new Leave(SKIP, 0), () -> {
                    if (v.sum == 0) throw new Leave(SKIP, 0);
                    v.sum--;
                    less[0]++;
                    if (less[0] == n) throw new Leave(STOP, 0);
                    return 0;
                });
            } catch (Leave leave) {
                if (leave.reason == ALARM) throw leave;
                if (leave.reason == STOP) break;
            }
        }
        return less[0];
    }

    private int sweep(int from, int many, int n) {
        int[] wanted = {n};
        for (int i = 0; i < many; i++) {
            Vault v = vaults.get(from + i);
            Leave skip = new Leave(SKIP, 0);
            try {
                hand(v, 0, skip, () -> hand(v, 1, skip, () -> {
                    int less = v.sum < wanted[0] ? v.sum : wanted[0];
                    v.sum -= less;
                    wanted[0] -= less;
                    if (wanted[0] == 0) throw new Leave(STOP, 0);
                    return 0;
                }));
            } catch (Leave leave) {
                if (leave.reason == ALARM) throw leave;
                if (leave.reason == STOP) break;
            }
        }
        return n - wanted[0];
    }

    private int walk(Vault v, int most, int n, int total) {
        if (v.hands[0] == null) {
            book.add(10);
            return total;
        }
        return holding(v.hands[0], () -> {
            int now = total + v.sum;
            if (now > n) throw alarm(-6);
            return most == 1 || v.next == null ? now : walk(v.next, most - 1, n, now);
        });
    }

    private static final String[] OPS = {"put", "take", "move", "swap"};

    private int order(int op, int v, int w, int n) {
        if (op < 0 || op > 4 || (op < 4 && isBad(OPS[op], v, op == 2 ? w : n, n))) return -2;
        if (tray.size() == 32) return -3;
        tray.add(new int[] {op, v, w, n});
        return tray.size();
    }

    private int run() {
        int done = 0;
        for (int[] o : tray) {
            if (o[0] == 4) break;
            int answer = doing(OPS[o[0]], o[1], o[0] == 2 ? o[2] : o[3], o[3]);
            if (answer == -6 || answer == -7) break;
            done++;
        }
        tray.clear();
        return done;
    }
}
