import java.util.function.ToIntFunction;

/**
 * A desk with something of everything: KEYS 0 (2 TEETH), 1 (9 TEETH, a MASTER) and 2 (1 of the TEETH);
 * VAULTS 0, 1, 2 with LIMITS 100, 50, 1000000 and SUMS 40, 20, 0, linked in a circle, VAULT 2 BARE at the
 * right HAND; 16 ENTRIES, 1 ALARM, and the ORDERS put(0, 1) and swap(1). Each call is tried on a new one,
 * so that no object comes near its 512th call.
 */
final class Busy {
    static final int NONE = VaultHands.NONE, BAD = VaultHands.BAD, FULL = VaultHands.FULL, MISSING = VaultHands.MISSING;
    static final int DENIED = VaultHands.DENIED, ALARM = VaultHands.ALARM, JAMMED = VaultHands.JAMMED;
    static final int BROKEN = VaultHands.BROKEN;
    static final int LOW = Integer.MIN_VALUE, HIGH = Integer.MAX_VALUE;

    /** What is no number of a VAULT of this desk; NONE is among them. */
    static final int[] NO_VAULTS = {LOW, LOW + 1, -2, NONE, 3, 4, 11, 12, HIGH - 1, HIGH};
    /** What is neither the number of a KEY of this desk nor NONE. */
    static final int[] NO_KEYS = {LOW, LOW + 1, -3, -2, 3, 4, 39, 40, HIGH - 1, HIGH};
    static final int[] NO_HANDS = {LOW, -2, NONE, 2, 3, HIGH};
    /** What is not 0 .. 1000000. */
    static final int[] NO_AMOUNTS = {LOW, LOW + 1, -1000000, -2, -1, 1000001, 1000002, HIGH - 1, HIGH};

    private Busy() {
    }

    static VaultHands desk() {
        VaultHands x = new VaultHands();
        x.key(2, false);
        x.key(9, true);
        x.key(1, false);
        x.vault(100);
        x.vault(50);
        x.vault(1000000);
        x.hang(0, 0, 0);
        x.hang(0, 1, 1);
        x.hang(1, 0, 1);
        x.hang(1, 1, 0);
        x.hang(2, 0, 2);
        x.link(0, 1);
        x.link(1, 2);
        x.link(2, 0);
        x.put(0, 60);
        x.move(0, 1, 20);
        x.take(1, 21);
        x.order(0, 0, 9, 1);
        x.order(3, 1, 9, -9);
        return x;
    }

    static Told told() {
        return new Told().sums(40, 20, 0).lefts(0, 1, 2).rights(1, 0, NONE).wears(4, 8, 0)
            .book(100, 101, 201, 200, 100, 101, 101, 100, 200, 201, 201, 200, 101, 100, 600, 601).alarms(1).orders(2);
    }

    /** The answer is BAD, and nothing changes. */
    static void isBad(String what, ToIntFunction<VaultHands> call) {
        VaultHands x = desk();
        Due.is(what, call.applyAsInt(x), BAD);
        told().look(what, x);
        hidden(what, x);
    }

    /** The answer, and all that is told behind it. */
    static void answers(String what, ToIntFunction<VaultHands> call, int answer, Told due) {
        VaultHands x = desk();
        Due.is(what, call.applyAsInt(x), answer);
        due.look(what, x);
    }

    /** What no call tells: the NEXT ones, the ORDERS, the LIMITS, the TEETH, and that nothing is HELD. */
    private static void hidden(String what, VaultHands x) {
        Due.is(what + ": next of 0", x.link(0, NONE), 1);
        Due.is(what + ": next of 1", x.link(1, NONE), 2);
        Due.is(what + ": next of 2", x.link(2, NONE), 0);
        Due.is(what + ": the orders", x.run(), 2);
        told().sums(41, 20, 0).lefts(0, 0, 2).rights(1, 1, NONE).wears(6, 12, 0)
            .more(100, 101, 201, 200, 101, 100, 200, 201).orders(0).look(what + ": behind the orders", x);
        Due.is(what + ": above limit 0", x.put(0, 60), DENIED);
        Due.is(what + ": at limit 0", x.put(0, 59), 100);
        Due.is(what + ": above limit 1", x.put(1, 31), DENIED);
        Due.is(what + ": at limit 1", x.put(1, 30), 50);
        x.hang(2, 1, 0);
        Due.is(what + ": at limit 2", x.put(2, 1000000), 1000000);
        Due.is(what + ": two teeth of key 0", x.move(0, 1, 0), 100);
        x.link(2, 2);
        Due.is(what + ": one of the teeth of key 2", x.walk(2, 2, 2000000), JAMMED);
        x.hang(2, 0, 1);
        Due.is(what + ": nine teeth of key 1", x.walk(2, 9, 9000000), 9000000);
    }
}
