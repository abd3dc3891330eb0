import java.util.Arrays;

/** All that a desk is due to tell behind a call: sum, hung, wear, entries, entry, alarms and orders. */
final class Told {
    private static final int NONE = VaultHands.NONE, BAD = VaultHands.BAD, MOST_KEPT = 400;

    private int[] sums = {};
    private int[] lefts = {};
    private int[] rights = {};
    private int[] wears = {};
    private int[] book = {};
    private int alarms = 0;
    private int orders = 0;

    Told sums(int... due) {
        sums = due;
        return this;
    }

    Told lefts(int... due) {
        lefts = due;
        return this;
    }

    Told rights(int... due) {
        rights = due;
        return this;
    }

    Told wears(int... due) {
        wears = due;
        return this;
    }

    Told book(int... due) {
        book = due;
        return this;
    }

    /** ENTRIES behind those that are due already. */
    Told more(int... due) {
        int before = book.length;
        book = Arrays.copyOf(book, before + due.length);
        System.arraycopy(due, 0, book, before, due.length);
        return this;
    }

    Told alarms(int due) {
        alarms = due;
        return this;
    }

    Told orders(int due) {
        orders = due;
        return this;
    }

    /** Looks one past each end, too, so that one VAULT, KEY or ENTRY too many is seen. */
    void look(String what, VaultHands x) {
        for (int v = 0; v < sums.length; v++) {
            Due.is(what + ": sum(" + v + ")", x.sum(v), sums[v]);
            Due.is(what + ": hung(" + v + ", 0)", x.hung(v, 0), lefts[v]);
            Due.is(what + ": hung(" + v + ", 1)", x.hung(v, 1), rights[v]);
        }
        Due.is(what + ": sum of no vault", x.sum(sums.length), BAD);
        for (int k = 0; k < wears.length; k++) {
            Due.is(what + ": wear(" + k + ")", x.wear(k), wears[k]);
        }
        Due.is(what + ": wear of no key", x.wear(wears.length), BAD);
        lookAtBook(what, x);
        Due.is(what + ": alarms()", x.alarms(), alarms);
        Due.is(what + ": orders()", x.orders(), orders);
    }

    private void lookAtBook(String what, VaultHands x) {
        int kept = Math.min(book.length, MOST_KEPT);
        Due.is(what + ": entries()", x.entries(), book.length);
        for (int i = 0; i < kept; i++) {
            Due.is(what + ": entry(" + i + ")", x.entry(i), book[i]);
        }
        Due.is(what + ": entry(" + kept + ")", x.entry(kept), NONE);
    }
}
