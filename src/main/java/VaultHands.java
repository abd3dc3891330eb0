/**
 * A desk for vaults that open to two keys, one of each hand. The document's promises say what each
 * call does; words in capitals are its terms.
 *
 * <p>All rows are made with the object and used again, so that no call makes anything.
 */
public final class VaultHands {
    public static final int NONE = -1, BAD = -2, FULL = -3, MISSING = -4, DENIED = -5, ALARM = -6, JAMMED = -7, BROKEN = -8;

    private static final int LEFT = 0, RIGHT = 1;

    private static final int MOST_KEYS = 40, MOST_TEETH = 9;
    private static final int MOST_VAULTS = 12, MOST_LIMIT = 1000000;
    private static final int MOST_AMOUNT = 1000000, MOST_PARTS = 1000, MOST_LESS = 12;
    private static final int MOST_COME_TO = 60, MOST_ORDERS = 32, MOST_KEPT = 400;

    // What an ENTRY tells; the number of its HAND (the first) or KEY (the others) is added to it.
    private static final int ENTRY_BARE = 10, ENTRY_TURN = 100, ENTRY_JAM = 700;
    private static final int AT_END = 200, BY_ANSWER = 300, BY_STOP = 400, BY_SKIP = 500, BY_ALARM = 600;

    // How a TURN ends, if not JAMMED.
    private static final int TURNED = 0, BARE = 1;

    private static final int OP_PUT = 0, OP_TAKE = 1, OP_MOVE = 2, OP_SWAP = 3, OP_STOP = 4;

    private final Keys keys;
    private final Vaults vaults;
    private final Book book;
    private final Tray tray;
    private final int[] grip; // the KEYS that the call holds, the one TURNED last at the end
    private int gripped;
    private int alarmCount;

    public VaultHands() {
        keys = new Keys();
        vaults = new Vaults();
        book = new Book();
        tray = new Tray();
        grip = new int[MOST_COME_TO]; // no call holds more than the longest WALK does
        gripped = 0;
        alarmCount = 0;
    }

    // ---- what there is

    public int key(int teeth, boolean master) {
        if (!isWithin(teeth, 1, MOST_TEETH)) {
            return BAD;
        }
        return keys.add(teeth, master ? 2 : 1);
    }

    public int vault(int limit) {
        if (!isWithin(limit, 0, MOST_LIMIT)) {
            return BAD;
        }
        return vaults.add(limit);
    }

    public int hang(int v, int hand, int k) {
        if (!vaults.hasHand(v, hand) || (k != NONE && !keys.has(k))) {
            return BAD;
        }
        int before = vaults.keyAt(v, hand);
        vaults.setKeyAt(v, hand, k);
        return before;
    }

    public int link(int v, int w) {
        if (!vaults.has(v) || (w != NONE && !vaults.has(w))) {
            return BAD;
        }
        int before = vaults.nexts[v];
        vaults.nexts[v] = w;
        return before;
    }

    // ---- what is done

    public int put(int v, int n) {
        if (!vaults.has(v) || !isAmount(n)) {
            return BAD;
        }
        int turned = turnBoth(v);
        if (turned != TURNED) {
            return turned;
        }
        if (vaults.isTooMuch(v, n)) {
            return letGo(BY_ANSWER, DENIED);
        }
        vaults.sums[v] += n;
        return letGo(AT_END, vaults.sums[v]);
    }

    public int take(int v, int n) {
        if (!vaults.has(v) || !isAmount(n)) {
            return BAD;
        }
        int turned = turnBoth(v);
        if (turned != TURNED) {
            return turned;
        }
        if (vaults.sums[v] < n) {
            return raiseAlarm(ALARM);
        }
        vaults.sums[v] -= n;
        return letGo(AT_END, vaults.sums[v]);
    }

    public int move(int a, int b, int n) {
        if (!vaults.has(a) || !vaults.has(b) || !isAmount(n)) {
            return BAD;
        }
        int turned = turnBoth(a);
        if (turned == TURNED) {
            turned = turnBoth(b);
        }
        if (turned != TURNED) {
            return turned;
        }
        if (vaults.sums[a] < n) {
            return raiseAlarm(ALARM);
        }
        // b is looked at as it is ahead of the move, even where it is a itself.
        if (vaults.isTooMuch(b, n)) {
            return letGo(BY_ANSWER, DENIED);
        }
        vaults.sums[a] -= n;
        vaults.sums[b] += n;
        return letGo(AT_END, vaults.sums[a]);
    }

    public int split(int v, int parts) {
        if (!vaults.has(v) || !isWithin(parts, 0, MOST_PARTS)) {
            return BAD;
        }
        int turned = turnBoth(v);
        if (turned != TURNED) {
            return turned;
        }
        if (parts == 0) {
            return raiseAlarm(BROKEN);
        }
        return letGo(AT_END, vaults.sums[v] / parts);
    }

    public int swap(int v) {
        if (!vaults.has(v)) {
            return BAD;
        }
        int turned = turnBoth(v);
        if (turned != TURNED) {
            return turned;
        }
        int left = vaults.keyAt(v, LEFT);
        int right = vaults.keyAt(v, RIGHT);
        vaults.setKeyAt(v, LEFT, right);
        vaults.setKeyAt(v, RIGHT, left);
        return letGo(AT_END, right);
    }

    public int polish(int k) {
        if (!keys.has(k)) {
            return BAD;
        }
        // It can't JAM: every KEY has TEETH, and none is HELD between two calls.
        turnKey(k);
        int worn = keys.wears[k];
        keys.wears[k] = 0;
        return letGo(AT_END, worn);
    }

    public int rounds(int from, int many, int n) {
        if (!hasRow(from, many) || !isWithin(n, 1, MOST_LESS)) {
            return BAD;
        }
        int less = 0;
        for (int v = from; v < from + many && less < n; v++) {
            // No KEY can JAM here: nothing is held when a VAULT is come to.
            if (turnHand(v, LEFT) != TURNED) {
                continue;
            }
            if (vaults.sums[v] == 0) {
                letGo(BY_SKIP, NONE);
                continue;
            }
            vaults.sums[v]--;
            less++;
            letGo(less == n ? BY_STOP : AT_END, NONE);
        }
        return less;
    }

    public int sweep(int from, int many, int n) {
        if (!hasRow(from, many) || !isWithin(n, 1, MOST_AMOUNT)) {
            return BAD;
        }
        int wanted = n;
        for (int v = from; v < from + many && wanted > 0; v++) {
            int turned = turnHand(v, LEFT);
            if (turned == TURNED) {
                turned = turnHand(v, RIGHT);
            }
            if (turned == JAMMED) {
                return raiseAlarm(JAMMED);
            }
            if (turned == BARE) {
                letGo(BY_SKIP, NONE); // of a BARE left HAND nothing is held
                continue;
            }
            int less = Math.min(vaults.sums[v], wanted);
            vaults.sums[v] -= less;
            wanted -= less;
            letGo(wanted == 0 ? BY_STOP : AT_END, NONE);
        }
        return n - wanted;
    }

    public int walk(int v, int most, int n) {
        if (!vaults.has(v) || !isWithin(most, 1, MOST_COME_TO) || n < 0) {
            return BAD;
        }
        int total = 0;
        int at = v;
        for (int comeTo = 0; comeTo < most && vaults.has(at); comeTo++) {
            int turned = turnHand(at, LEFT);
            if (turned == JAMMED) {
                return raiseAlarm(JAMMED);
            }
            if (turned == BARE) {
                break;
            }
            total += vaults.sums[at];
            if (total > n) {
                return raiseAlarm(ALARM);
            }
            at = vaults.nexts[at];
        }
        return letGo(AT_END, total);
    }

    public int order(int op, int v, int w, int n) {
        if (!isOrder(op, v, w, n)) {
            return BAD;
        }
        return tray.add(op, v, w, n);
    }

    public int run() {
        int many = tray.count;
        int done = 0;
        while (done < many && doOrder(done)) {
            done++;
        }
        tray.count = 0;
        return done;
    }

    // ---- what is told

    public int sum(int v) {
        return vaults.has(v) ? vaults.sums[v] : BAD;
    }

    public int hung(int v, int hand) {
        return vaults.hasHand(v, hand) ? vaults.keyAt(v, hand) : BAD;
    }

    public int wear(int k) {
        return keys.has(k) ? keys.wears[k] : BAD;
    }

    public int entries() {
        return book.count;
    }

    public int entry(int i) {
        return book.read(i);
    }

    public int clear() {
        int before = book.count;
        book.count = 0;
        return before;
    }

    public int alarms() {
        return alarmCount;
    }

    public int orders() {
        return tray.count;
    }

    // ---- turning and letting go

    /** Answers TURNED, or what the call is to answer: then nothing is held any more. */
    private int turnBoth(int v) {
        int turned = turnHand(v, LEFT);
        if (turned == TURNED) {
            turned = turnHand(v, RIGHT);
        }
        if (turned == JAMMED) {
            return raiseAlarm(JAMMED);
        }
        if (turned == BARE) {
            return letGo(BY_ANSWER, MISSING);
        }
        return TURNED;
    }

    /** Answers TURNED, BARE or JAMMED; the ALARM of a jam is left to the caller. */
    private int turnHand(int v, int hand) {
        int k = vaults.keyAt(v, hand);
        if (!keys.has(k)) {
            book.write(ENTRY_BARE + hand);
            return BARE;
        }
        return turnKey(k);
    }

    /** Answers TURNED or JAMMED; k is a KEY. */
    private int turnKey(int k) {
        // The grip has room for all that a call can hold: it is the TEETH alone that refuse.
        if (keys.held[k] >= keys.teeth[k] || gripped >= grip.length) {
            book.write(ENTRY_JAM + k);
            return JAMMED;
        }
        keys.wears[k] += keys.strains[k];
        keys.held[k]++;
        grip[gripped] = k;
        gripped++;
        book.write(ENTRY_TURN + k);
        return TURNED;
    }

    /** Hands the answer back, so that a call can end in one line. */
    private int letGo(int how, int answer) {
        for (int i = gripped - 1; i >= 0; i--) {
            int k = grip[i];
            keys.held[k]--;
            book.write(how + k);
        }
        gripped = 0;
        return answer;
    }

    private int raiseAlarm(int answer) {
        alarmCount++;
        return letGo(BY_ALARM, answer);
    }

    // ---- orders

    private boolean isOrder(int op, int v, int w, int n) {
        switch (op) {
            case OP_PUT:
            case OP_TAKE:
                return vaults.has(v) && isAmount(n);
            case OP_MOVE:
                return vaults.has(v) && vaults.has(w) && isAmount(n);
            case OP_SWAP:
                return vaults.has(v);
            case OP_STOP:
                return true;
            default:
                return false;
        }
    }

    /** Answers whether ORDER i counts as done: then those behind it are done, too. */
    private boolean doOrder(int i) {
        int answer;
        switch (tray.ops[i]) {
            case OP_PUT:
                answer = put(tray.firsts[i], tray.amounts[i]);
                break;
            case OP_TAKE:
                answer = take(tray.firsts[i], tray.amounts[i]);
                break;
            case OP_MOVE:
                answer = move(tray.firsts[i], tray.seconds[i], tray.amounts[i]);
                break;
            case OP_SWAP:
                answer = swap(tray.firsts[i]);
                break;
            default:
                return false;
        }
        return answer != ALARM && answer != JAMMED;
    }

    // ---- what a number must be

    private static boolean isWithin(int n, int least, int most) {
        return n >= least && n <= most;
    }

    private static boolean isAmount(int n) {
        return isWithin(n, 0, MOST_AMOUNT);
    }

    /** The bound on many is looked at ahead of the sum, which could wrap around without it. */
    private boolean hasRow(int from, int many) {
        return vaults.has(from) && isWithin(many, 1, MOST_VAULTS) && from + many <= vaults.count;
    }

    // ---- the rows

    private static final class Keys {
        final int[] teeth = new int[MOST_KEYS];
        final int[] strains = new int[MOST_KEYS]; // what one TURN adds to the WEAR
        final int[] wears = new int[MOST_KEYS];
        final int[] held = new int[MOST_KEYS];
        int count = 0;

        boolean has(int k) {
            return k >= 0 && k < count;
        }

        int add(int toothCount, int strain) {
            if (count >= MOST_KEYS) {
                return FULL;
            }
            teeth[count] = toothCount;
            strains[count] = strain;
            count++;
            return count - 1;
        }
    }

    private static final class Vaults {
        final int[] limits = new int[MOST_VAULTS];
        final int[] sums = new int[MOST_VAULTS];
        final int[] nexts = new int[MOST_VAULTS];
        final int[] lefts = new int[MOST_VAULTS]; // the KEYS at the left HANDS, or NONE
        final int[] rights = new int[MOST_VAULTS];
        int count = 0;

        boolean has(int v) {
            return v >= 0 && v < count;
        }

        boolean hasHand(int v, int hand) {
            return has(v) && (hand == LEFT || hand == RIGHT);
        }

        int add(int limit) {
            if (count >= MOST_VAULTS) {
                return FULL;
            }
            limits[count] = limit;
            nexts[count] = NONE;
            lefts[count] = NONE;
            rights[count] = NONE;
            count++;
            return count - 1;
        }

        int keyAt(int v, int hand) {
            if (!has(v)) {
                return NONE;
            }
            return hand == LEFT ? lefts[v] : rights[v];
        }

        void setKeyAt(int v, int hand, int k) {
            if (!has(v)) {
                return;
            }
            if (hand == LEFT) {
                lefts[v] = k;
            } else {
                rights[v] = k;
            }
        }

        /** Neither the SUM nor n is above 1000000, so that the two do not wrap around. */
        boolean isTooMuch(int v, int n) {
            return has(v) && sums[v] + n > limits[v];
        }
    }

    private static final class Book {
        final int[] kept = new int[MOST_KEPT];
        int count = 0;

        void write(int told) {
            if (count >= 0 && count < MOST_KEPT) {
                kept[count] = told;
            }
            count++;
        }

        int read(int i) {
            return i >= 0 && i < count && i < MOST_KEPT ? kept[i] : NONE;
        }
    }

    private static final class Tray {
        final int[] ops = new int[MOST_ORDERS];
        final int[] firsts = new int[MOST_ORDERS];
        final int[] seconds = new int[MOST_ORDERS];
        final int[] amounts = new int[MOST_ORDERS];
        int count = 0;

        int add(int op, int v, int w, int n) {
            if (count >= MOST_ORDERS) {
                return FULL;
            }
            ops[count] = op;
            firsts[count] = v;
            seconds[count] = w;
            amounts[count] = n;
            count++;
            return count;
        }
    }
}
