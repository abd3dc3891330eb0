/** The boundary cases of promises 15, 16 and 24, sentence by sentence. */
public final class EdgesOfOrdersTest {
    private static final int NONE = Busy.NONE, BAD = Busy.BAD, FULL = Busy.FULL, LOW = Busy.LOW, HIGH = Busy.HIGH;
    private static final int PUT = 0, TAKE = 1, MOVE = 2, SWAP = 3, STOP = 4;
    private static final int MOST = 32;

    public static void main(String[] args) {
        p15OpIsBad();
        p15FirstAndLastOp();
        p15ThatCallWouldBeBad();
        p15NAtBothEnds();
        p15WhatItDoesNotHaveIsNotLookedAt();
        p15OfStopNothingIsLookedAt();
        p15ThirtyTwoAtMost();
        p15BadAheadOfFull();
        p15RoomAgainBehindRun();
        p16NoOrders();
        p16AllWereDone();
        p16AStopAtEachPlace();
        p16AnAlarmAtEachPlace();
        p16AJamAtEachPlace();
        p16AJamAtTheOtherVault();
        p16DeniedAndMissingGoOn();
        p16TheTrayIsEmptyThen();
        p16AsTheyStandWhenTheyAreDone();
        p24HowManyLieThere();
        Due.end();
    }

    private static void isBad(int op, int v, int w, int n) {
        Busy.isBad("15: order(" + op + ", " + v + ", " + w + ", " + n + ")", x -> x.order(op, v, w, n));
    }

    /** It lies on the TRAY, and nothing is done yet. */
    private static void isTaken(int op, int v, int w, int n) {
        Busy.answers("15: order(" + op + ", " + v + ", " + w + ", " + n + ")", x -> x.order(op, v, w, n), 3,
            Busy.told().orders(3));
    }

    private static void p15OpIsBad() {
        for (int op : new int[] {LOW, LOW + 1, -4, -2, -1, 5, 6, HIGH - 1, HIGH}) {
            isBad(op, 0, 1, 0);
        }
    }

    private static void p15FirstAndLastOp() {
        for (int op = PUT; op <= STOP; op++) {
            isTaken(op, 0, 1, 0);
            isTaken(op, 2, 2, 0);
        }
    }

    private static void p15ThatCallWouldBeBad() {
        for (int v : Busy.NO_VAULTS) {
            isBad(PUT, v, 0, 0);
            isBad(TAKE, v, 0, 0);
            isBad(MOVE, v, 0, 0);
            isBad(MOVE, 0, v, 0);
            isBad(SWAP, v, 0, 0);
        }
        for (int n : Busy.NO_AMOUNTS) {
            isBad(PUT, 0, 0, n);
            isBad(TAKE, 0, 0, n);
            isBad(MOVE, 0, 1, n);
        }
    }

    private static void p15NAtBothEnds() {
        for (int n : new int[] {0, 1, 999999, 1000000}) {
            isTaken(PUT, 0, 0, n);
            isTaken(TAKE, 0, 0, n);
            isTaken(MOVE, 0, 1, n);
        }
    }

    private static void p15WhatItDoesNotHaveIsNotLookedAt() {
        for (int w : Busy.NO_VAULTS) {
            isTaken(PUT, 0, w, 0);
            isTaken(TAKE, 0, w, 0);
            isTaken(SWAP, 0, w, 0);
        }
        for (int n : Busy.NO_AMOUNTS) {
            isTaken(SWAP, 0, 0, n);
            isTaken(SWAP, 2, n, n);
        }
    }

    private static void p15OfStopNothingIsLookedAt() {
        for (int number : new int[] {LOW, NONE, 0, 12, 1000001, HIGH}) {
            isTaken(STOP, number, 0, 0);
            isTaken(STOP, 0, number, 0);
            isTaken(STOP, 0, 0, number);
            isTaken(STOP, number, number, number);
        }
    }

    /** The busy desk with so many ORDERS, those behind its own two put(0, 0). */
    private static VaultHands trayOf(int many) {
        VaultHands x = Busy.desk();
        for (int i = 3; i <= many; i++) {
            Due.is("15: the order " + i, x.order(PUT, 0, 0, 0), i);
        }
        return x;
    }

    private static void p15ThirtyTwoAtMost() {
        VaultHands x = trayOf(MOST - 1);
        Busy.told().orders(31).look("15: 31 orders", x);
        Due.is("15: the 32nd", x.order(PUT, 0, 0, 1), 32);
        Busy.told().orders(32).look("15: 32 orders", x);
        for (int op = PUT; op <= STOP; op++) {
            Due.is("15: the 33rd, " + op, x.order(op, 0, 1, 0), FULL);
        }
        Busy.told().orders(32).look("15: the 33rd", x);
        Due.is("15: 32 are done", x.run(), 32);
        Due.is("15: the 32nd was done, the 33rd was not", x.sum(0), 42);
        Due.is("15: their entries", x.entries(), 16 + 32 * 4);
    }

    private static void p15BadAheadOfFull() {
        VaultHands x = trayOf(MOST);
        int[][] bad = {{-1, 0, 0, 0}, {5, 0, 0, 0}, {LOW, 0, 0, 0}, {HIGH, 0, 0, 0}, {PUT, 3, 0, 0}, {PUT, 0, 0, 1000001},
            {TAKE, NONE, 0, 0}, {TAKE, 0, 0, -1}, {MOVE, 3, 0, 0}, {MOVE, 0, 3, 0}, {MOVE, 0, 0, 1000001}, {SWAP, 3, 0, 0}};
        for (int[] b : bad) {
            Due.is("15: BAD ahead of FULL, " + b[0], x.order(b[0], b[1], b[2], b[3]), BAD);
        }
        Due.is("15: not BAD, but FULL", x.order(SWAP, 2, 3, -1), FULL);
        Due.is("15: not BAD, but FULL", x.order(STOP, 3, 3, -1), FULL);
        Busy.told().orders(32).look("15: BAD ahead of FULL", x);
        Due.is("15: none was added or lost", x.run(), 32);
    }

    private static void p15RoomAgainBehindRun() {
        VaultHands x = trayOf(MOST);
        x.run();
        for (int i = 1; i <= MOST; i++) {
            Due.is("15: order again", x.order(TAKE, 0, 0, 1), i);
        }
        Due.is("15: full again", x.order(TAKE, 0, 0, 1), FULL);
        Due.is("15: 32 again", x.run(), 32);
        Due.is("15: 32 again", x.sum(0), 41 - 32);
    }

    private static void p16NoOrders() {
        VaultHands x = Busy.desk();
        x.run();
        Told due = Busy.told().sums(41, 20, 0).lefts(0, 0, 2).rights(1, 1, NONE).wears(6, 12, 0)
            .more(100, 101, 201, 200, 101, 100, 200, 201).orders(0);
        due.look("16: two orders", x);
        Due.is("16: none lie there any more", x.run(), 0);
        due.look("16: none lie there any more", x);
    }

    /** Two VAULTS with LIMIT 1000 and SUM 100, KEYS 0 .. 3, and KEY 4 with 1 of the TEETH at VAULT 2. */
    private static VaultHands three() {
        VaultHands x = new VaultHands();
        Due.vault(x, 1000, 100);
        Due.vault(x, 1000, 100);
        x.key(1, false);
        x.vault(1000);
        x.hang(2, 0, 4);
        x.hang(2, 1, 4);
        return x;
    }

    private static void fill(VaultHands x, int many) {
        for (int i = 0; i < many; i++) {
            x.order(PUT, 0, 0, 1);
        }
    }

    private static void p16AllWereDone() {
        for (int many : new int[] {1, 31, 32}) {
            VaultHands x = three();
            fill(x, many);
            Due.is("16: all of " + many, x.run(), many);
            Due.is("16: all of " + many, x.sum(0), 100 + many);
            Due.is("16: the tray behind " + many, x.orders(), 0);
        }
    }

    /** The number told is of those ahead of it, be it the first, one within, or the last of the 32. */
    private static void oneAmong(String what, int[] order, int entries, int alarms) {
        for (int place : new int[] {0, 1, 30, 31}) {
            VaultHands x = three();
            fill(x, place);
            x.order(order[0], order[1], order[2], order[3]);
            fill(x, MOST - 1 - place);
            Due.is(what + " at " + place, x.run(), place);
            Due.is(what + " at " + place + ": sum 0", x.sum(0), 100 + place);
            Due.is(what + " at " + place + ": sum 1", x.sum(1), 100);
            Due.is(what + " at " + place + ": sum 2", x.sum(2), 0);
            Due.is(what + " at " + place + ": left", x.hung(1, 0), 2);
            Due.is(what + " at " + place + ": right", x.hung(1, 1), 3);
            Due.is(what + " at " + place + ": wear", x.wear(4), order[1] == 2 ? 1 : 0);
            Due.is(what + " at " + place + ": entries", x.entries(), 4 * place + entries);
            Due.is(what + " at " + place + ": alarms", x.alarms(), alarms);
            Due.is(what + " at " + place + ": orders", x.orders(), 0);
            Due.is(what + " at " + place + ": those behind are gone", x.run(), 0);
        }
    }

    private static void p16AStopAtEachPlace() {
        oneAmong("16: a stop", new int[] {STOP, 1, 1, 1}, 0, 0);
        VaultHands x = three();
        x.order(STOP, 0, 0, 0);
        x.order(STOP, 0, 0, 0);
        Due.is("16: nothing but stops", x.run(), 0);
        Due.is("16: nothing but stops", x.orders(), 0);
    }

    private static void p16AnAlarmAtEachPlace() {
        oneAmong("16: a take that is an ALARM", new int[] {TAKE, 1, 0, 101}, 4, 1);
        oneAmong("16: a move that is an ALARM", new int[] {MOVE, 1, 0, 101}, 8, 1);
    }

    private static void p16AJamAtEachPlace() {
        for (int op = PUT; op <= SWAP; op++) {
            oneAmong("16: JAMMED by " + op, new int[] {op, 2, 1, 0}, 3, 1);
        }
    }

    private static void p16AJamAtTheOtherVault() {
        VaultHands x = three();
        fill(x, 2);
        x.order(MOVE, 1, 2, 0);
        fill(x, 2);
        Due.is("16: JAMMED at the other vault", x.run(), 2);
        new Told().sums(102, 100, 0).lefts(0, 2, 4).rights(1, 3, 4).wears(3, 3, 2, 2, 1)
            .book(100, 101, 201, 200, 100, 101, 201, 200).more(102, 103, 104, 704, 604, 603, 602).alarms(1)
            .look("16: JAMMED at the other vault", x);
    }

    /** They answer, and are done by that: the last of the 32 is come to. */
    private static void p16DeniedAndMissingGoOn() {
        int[][] orders = {{PUT, 1, 0, 901}, {MOVE, 0, 1, 91}, {PUT, 2, 0, 0}, {TAKE, 2, 0, 1}, {MOVE, 0, 2, 1}, {SWAP, 2, 0, 0}};
        for (int[] o : orders) {
            VaultHands x = three();
            x.hang(2, 1, NONE);
            x.put(1, 810);
            for (int i = 0; i < MOST - 1; i++) {
                x.order(o[0], o[1], o[2], o[3]);
            }
            x.order(PUT, 0, 0, 1);
            Due.is("16: DENIED or MISSING of " + o[0], x.run(), 32);
            Due.is("16: the last was done", x.sum(0), 101);
            Due.is("16: none of the others", x.sum(1), 910);
            Due.is("16: none of the others", x.sum(2), 0);
            Due.is("16: nothing is swapped", x.hung(2, 0), 4);
            Due.is("16: no alarms", x.alarms(), 0);
        }
    }

    private static void p16TheTrayIsEmptyThen() {
        int[][] ends = {{STOP, 0, 0, 0}, {TAKE, 0, 0, 1000}, {PUT, 2, 0, 1}, {PUT, 0, 0, 1}};
        for (int[] end : ends) {
            VaultHands x = three();
            x.order(end[0], end[1], end[2], end[3]);
            fill(x, 5);
            x.run();
            Due.is("16: empty", x.orders(), 0);
            Due.is("16: the first one again", x.order(PUT, 1, 0, 7), 1);
            Due.is("16: that one alone", x.run(), 1);
            Due.is("16: that one alone", x.sum(1), 107);
        }
    }

    private static void p16AsTheyStandWhenTheyAreDone() {
        VaultHands x = three();
        x.order(SWAP, 0, 0, 0);
        x.order(TAKE, 0, 0, 100);
        x.order(TAKE, 0, 0, 1);
        x.hang(0, 0, 3);
        x.put(0, 1);
        x.clear();
        Due.is("16: as they stand then", x.run(), 3);
        new Told().sums(0, 100, 0).lefts(1, 2, 4).rights(3, 3, 4).wears(1, 5, 1, 5, 0)
            .book(103, 101, 201, 203, 101, 103, 203, 201, 101, 103, 203, 201).look("16: as they stand then", x);
    }

    private static void p24HowManyLieThere() {
        VaultHands x = new VaultHands();
        Due.is("24: none", x.orders(), 0);
        for (int i = 1; i <= MOST; i++) {
            x.order(STOP, 0, 0, 0);
            Due.is("24: orders", x.orders(), i);
        }
        x.order(STOP, 0, 0, 0);
        Due.is("24: FULL adds none", x.orders(), 32);
        x.order(5, 0, 0, 0);
        Due.is("24: BAD adds none", x.orders(), 32);
        Due.is("24: looking changes nothing", x.orders(), 32);
        x.run();
        Due.is("24: none behind run", x.orders(), 0);
    }
}
