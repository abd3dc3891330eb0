/** Promises 15, 16 and 24. */
public final class OrdersTest {
    private static final int NONE = VaultHands.NONE, BAD = VaultHands.BAD, FULL = VaultHands.FULL;
    private static final int LOW = Integer.MIN_VALUE, HIGH = Integer.MAX_VALUE;
    private static final int PUT = 0, TAKE = 1, MOVE = 2, SWAP = 3, STOP = 4;

    public static void main(String[] args) {
        promise15Order();
        promise15OrderBad();
        promise15OrderFull();
        promise16Run();
        promise16RunTillAStop();
        promise16RunTillAnAlarm();
        promise16RunTillAJam();
        promise16RunGoesOnByAnswers();
        promise24Orders();
        Due.end();
    }

    private static VaultHands two() {
        VaultHands x = new VaultHands();
        Due.vault(x, 100, 50);
        Due.vault(x, 20, 5);
        return x;
    }

    private static void promise15Order() {
        VaultHands x = two();
        Due.is("15: put", x.order(PUT, 0, HIGH, 0), 1);
        Due.is("15: take", x.order(TAKE, 1, LOW, 1000000), 2);
        Due.is("15: move", x.order(MOVE, 1, 0, 3), 3);
        Due.is("15: swap", x.order(SWAP, 1, -7, -9), 4);
        Due.is("15: stop", x.order(STOP, LOW, HIGH, -1), 5);
        Due.is("15: nothing is done", x.entries(), 0);
        Due.is("15: sum", x.sum(0), 50);
    }

    private static void promise15OrderBad() {
        VaultHands x = two();
        int[][] bad = {{-1, 0, 0, 0}, {5, 0, 0, 0}, {LOW, 0, 0, 0}, {HIGH, 0, 0, 0},
            {PUT, 2, 0, 0}, {PUT, -1, 0, 0}, {PUT, 0, 0, -1}, {PUT, 0, 0, 1000001},
            {TAKE, 2, 0, 0}, {TAKE, -1, 0, 0}, {TAKE, 0, 0, -1}, {TAKE, 0, 0, 1000001},
            {MOVE, 2, 0, 0}, {MOVE, 0, 2, 0}, {MOVE, -1, 0, 0}, {MOVE, 0, -1, 0}, {MOVE, 0, 0, -1}, {MOVE, 0, 0, 1000001},
            {SWAP, 2, 0, 0}, {SWAP, -1, 0, 0}};
        for (int[] b : bad) {
            Due.is("15: BAD " + b[0] + " " + b[1] + " " + b[2] + " " + b[3], x.order(b[0], b[1], b[2], b[3]), BAD);
        }
        Due.is("15: none by BAD", x.orders(), 0);
    }

    private static void promise15OrderFull() {
        VaultHands x = two();
        for (int i = 1; i <= 32; i++) {
            Due.is("15: order", x.order(i % 4, 0, 1, i % 3), i);
        }
        Due.is("15: full", x.order(STOP, 0, 0, 0), FULL);
        Due.is("15: full", x.order(PUT, 0, 0, 0), FULL);
        Due.is("15: BAD ahead of FULL", x.order(PUT, 0, 0, -1), BAD);
        Due.is("15: BAD ahead of FULL", x.order(5, 0, 0, 0), BAD);
        Due.is("15: 32 of them", x.orders(), 32);
        Due.is("15: all are done", x.run(), 32);
        Due.is("15: room again", x.order(PUT, 0, 0, 0), 1);
    }

    private static void promise16Run() {
        VaultHands x = two();
        Due.is("16: none", x.run(), 0);
        x.order(PUT, 0, 1, 7);
        x.order(TAKE, 1, 0, 2);
        x.order(MOVE, 0, 1, 4);
        x.order(SWAP, 1, 0, 0);
        Due.is("16: all", x.run(), 4);
        Due.book("16: all", x, 100, 101, 201, 200, 102, 103, 203, 202,
            100, 101, 102, 103, 203, 202, 201, 200, 102, 103, 203, 202);
        Due.is("16: sum 0", x.sum(0), 53);
        Due.is("16: sum 1", x.sum(1), 7);
        Due.is("16: swapped", x.hung(1, 0), 3);
        Due.is("16: the tray is empty", x.run(), 0);
        Due.book("16: the tray is empty", x);
    }

    private static void promise16RunTillAStop() {
        VaultHands x = two();
        x.order(PUT, 0, 0, 1);
        x.order(STOP, 0, 0, 0);
        x.order(PUT, 0, 0, 1);
        Due.is("16: till a stop", x.run(), 1);
        Due.is("16: not those behind it", x.sum(0), 51);
        Due.is("16: they are gone", x.orders(), 0);
        Due.is("16: they are gone", x.run(), 0);
        x.order(STOP, 0, 0, 0);
        Due.is("16: nothing but a stop", x.run(), 0);
        Due.is("16: no alarms", x.alarms(), 0);
    }

    private static void promise16RunTillAnAlarm() {
        VaultHands x = two();
        x.order(PUT, 0, 0, 1);
        x.order(PUT, 0, 0, 1);
        x.order(TAKE, 1, 0, 6);
        x.order(PUT, 0, 0, 1);
        Due.is("16: till an alarm", x.run(), 2);
        Due.is("16: not those behind it", x.sum(0), 52);
        Due.is("16: they are gone", x.orders(), 0);
        Due.is("16: alarms", x.alarms(), 1);
        Due.book("16: till an alarm", x, 100, 101, 201, 200, 100, 101, 201, 200, 102, 103, 603, 602);
        x.order(MOVE, 1, 0, 6);
        x.order(PUT, 0, 0, 1);
        Due.is("16: till a move's alarm", x.run(), 0);
        Due.is("16: alarms", x.alarms(), 2);
        Due.is("16: not those behind it", x.sum(0), 52);
    }

    private static void promise16RunTillAJam() {
        VaultHands x = two();
        int k = x.key(1, false);
        x.vault(9);
        x.hang(2, 0, k);
        x.hang(2, 1, k);
        int[] ops = {PUT, TAKE, MOVE, SWAP};
        for (int op : ops) {
            x.order(PUT, 0, 0, 1);
            x.order(op, 2, 0, 0);
            x.order(PUT, 0, 0, 1);
            Due.is("16: till a jam of " + op, x.run(), 1);
        }
        Due.is("16: alarms", x.alarms(), 4);
        Due.is("16: sum", x.sum(0), 54);
    }

    private static void promise16RunGoesOnByAnswers() {
        VaultHands x = two();
        x.vault(9);
        x.order(PUT, 1, 0, 16);
        x.order(MOVE, 0, 1, 16);
        x.order(PUT, 2, 0, 1);
        x.order(TAKE, 2, 0, 1);
        x.order(MOVE, 0, 2, 1);
        x.order(SWAP, 2, 0, 0);
        x.order(TAKE, 0, 0, 50);
        Due.is("16: DENIED and MISSING are done, too", x.run(), 7);
        Due.is("16: sum", x.sum(0), 0);
        Due.is("16: no alarms", x.alarms(), 0);
        x.order(PUT, 2, 0, 1);
        int left = x.key(1, false);
        x.hang(2, 0, left);
        x.hang(2, 1, x.key(1, false));
        Due.is("16: what hangs when it is done counts", x.run(), 1);
        Due.is("16: sum", x.sum(2), 1);
    }

    private static void promise24Orders() {
        VaultHands x = two();
        Due.is("24: none", x.orders(), 0);
        x.order(PUT, 0, 0, 1);
        Due.is("24: one", x.orders(), 1);
        x.order(STOP, 0, 0, 1);
        Due.is("24: a stop counts", x.orders(), 2);
        x.order(PUT, 0, 0, NONE);
        Due.is("24: BAD does not", x.orders(), 2);
        x.clear();
        Due.is("24: clear() is of the book", x.orders(), 2);
        x.run();
        Due.is("24: none behind run()", x.orders(), 0);
    }
}
