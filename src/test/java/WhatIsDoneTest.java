/** Promises 6 to 14. */
public final class WhatIsDoneTest {
    private static final int NONE = VaultHands.NONE, BAD = VaultHands.BAD, MISSING = VaultHands.MISSING;
    private static final int DENIED = VaultHands.DENIED, ALARM = VaultHands.ALARM, JAMMED = VaultHands.JAMMED;
    private static final int BROKEN = VaultHands.BROKEN;
    private static final int LOW = Integer.MIN_VALUE, HIGH = Integer.MAX_VALUE;

    public static void main(String[] args) {
        promise6Put();
        promise6PutMissingAndJammed();
        promise7Take();
        promise7TakeMissingAndJammed();
        promise8Move();
        promise8MoveWithinOneVault();
        promise8MoveMissing();
        promise8MoveJammed();
        promise9Split();
        promise9SplitMissingAndJammed();
        promise10Swap();
        promise10SwapMissingAndJammed();
        promise11Polish();
        promise12Rounds();
        promise12RoundsStop();
        promise12RoundsBad();
        promise13Sweep();
        promise13SweepBare();
        promise13SweepJammed();
        promise13SweepBad();
        promise14Walk();
        promise14WalkInACircle();
        promise14WalkAlarm();
        promise14WalkJammed();
        promise14WalkBad();
        Due.end();
    }

    /** KEY 0 with 1 of the TEETH at both HANDS of VAULT 0: BOTH of it JAM always. */
    private static VaultHands jamming() {
        VaultHands x = new VaultHands();
        x.key(1, false);
        x.vault(100);
        x.hang(0, 0, 0);
        x.hang(0, 1, 0);
        return x;
    }

    private static void promise6Put() {
        VaultHands x = new VaultHands();
        Due.vault(x, 10, 0);
        Due.is("6: put", x.put(0, 4), 4);
        Due.book("6: put", x, 100, 101, 201, 200);
        Due.is("6: put 0", x.put(0, 0), 4);
        Due.is("6: put to the limit", x.put(0, 6), 10);
        x.clear();
        Due.is("6: above the limit", x.put(0, 1), DENIED);
        Due.book("6: above the limit", x, 100, 101, 301, 300);
        Due.is("6: 1000000", x.put(0, 1000000), DENIED);
        x.clear();
        int[][] bad = {{0, -1}, {0, 1000001}, {1, 0}, {-1, 0}, {0, LOW}, {0, HIGH}, {LOW, 0}, {HIGH, 0}};
        for (int[] b : bad) {
            Due.is("6: BAD " + b[0] + " " + b[1], x.put(b[0], b[1]), BAD);
        }
        Due.book("6: BAD", x);
        Due.is("6: sum", x.sum(0), 10);
        Due.is("6: wear", x.wear(0), 5);
        Due.is("6: no alarms", x.alarms(), 0);
    }

    private static void promise6PutMissingAndJammed() {
        VaultHands x = new VaultHands();
        Due.vault(x, 10, 0);
        x.hang(0, 1, NONE);
        Due.is("6: right is bare", x.put(0, 1), MISSING);
        Due.book("6: right is bare", x, 100, 11, 300);
        x.hang(0, 0, NONE);
        Due.is("6: both are bare", x.put(0, 11), MISSING);
        Due.book("6: both are bare", x, 10);
        x.hang(0, 1, 1);
        Due.is("6: left is bare", x.put(0, 1), MISSING);
        Due.book("6: left is bare", x, 10);
        Due.is("6: sum", x.sum(0), 0);
        Due.is("6: no alarms", x.alarms(), 0);
        x = jamming();
        Due.is("6: jammed", x.put(0, 1), JAMMED);
        Due.book("6: jammed", x, 100, 700, 600);
        Due.is("6: jammed again, as it was let go", x.put(0, 1), JAMMED);
        Due.book("6: jammed again", x, 100, 700, 600);
        Due.is("6: sum", x.sum(0), 0);
        Due.is("6: alarms", x.alarms(), 2);
        Due.is("6: a jam does not wear", x.wear(0), 2);
    }

    private static void promise7Take() {
        VaultHands x = new VaultHands();
        Due.vault(x, 10, 7);
        Due.is("7: take", x.take(0, 3), 4);
        Due.book("7: take", x, 100, 101, 201, 200);
        Due.is("7: take 0", x.take(0, 0), 4);
        x.clear();
        Due.is("7: take too much", x.take(0, 5), ALARM);
        Due.book("7: take too much", x, 100, 101, 601, 600);
        Due.is("7: sum", x.sum(0), 4);
        Due.is("7: alarms", x.alarms(), 1);
        Due.is("7: take all", x.take(0, 4), 0);
        Due.is("7: 1000000", x.take(0, 1000000), ALARM);
        x.clear();
        int[][] bad = {{0, -1}, {0, 1000001}, {1, 0}, {-1, 0}, {0, LOW}, {0, HIGH}, {LOW, 0}, {HIGH, 0}};
        for (int[] b : bad) {
            Due.is("7: BAD " + b[0] + " " + b[1], x.take(b[0], b[1]), BAD);
        }
        Due.book("7: BAD", x);
        Due.is("7: alarms", x.alarms(), 2);
    }

    private static void promise7TakeMissingAndJammed() {
        VaultHands x = new VaultHands();
        Due.vault(x, 10, 5);
        x.hang(0, 1, NONE);
        Due.is("7: right is bare", x.take(0, 9), MISSING);
        Due.book("7: right is bare", x, 100, 11, 300);
        x.hang(0, 0, NONE);
        Due.is("7: left is bare", x.take(0, 1), MISSING);
        Due.book("7: left is bare", x, 10);
        Due.is("7: sum", x.sum(0), 5);
        Due.is("7: no alarms", x.alarms(), 0);
        x = jamming();
        Due.is("7: jammed", x.take(0, 0), JAMMED);
        Due.book("7: jammed", x, 100, 700, 600);
        Due.is("7: a jam is one alarm", x.alarms(), 1);
    }

    private static void promise8Move() {
        VaultHands x = new VaultHands();
        Due.vault(x, 100, 50);
        Due.vault(x, 20, 5);
        Due.is("8: move", x.move(0, 1, 10), 40);
        Due.book("8: move", x, 100, 101, 102, 103, 203, 202, 201, 200);
        Due.is("8: b", x.sum(1), 15);
        Due.is("8: to b's limit", x.move(0, 1, 5), 35);
        Due.is("8: move 0", x.move(0, 1, 0), 35);
        x.clear();
        Due.is("8: above b's limit", x.move(0, 1, 1), DENIED);
        Due.book("8: above b's limit", x, 100, 101, 102, 103, 303, 302, 301, 300);
        Due.is("8: the alarm goes ahead of DENIED", x.move(0, 1, 36), ALARM);
        Due.book("8: too much", x, 100, 101, 102, 103, 603, 602, 601, 600);
        Due.is("8: back, all of it", x.move(1, 0, 20), 0);
        Due.is("8: a", x.sum(0), 55);
        Due.is("8: alarms", x.alarms(), 1);
        x.clear();
        int[][] bad = {{2, 0, 0}, {0, 2, 0}, {-1, 0, 0}, {0, -1, 0}, {0, 1, -1}, {0, 1, 1000001},
            {LOW, 0, 0}, {0, HIGH, 0}, {0, 1, LOW}, {0, 1, HIGH}};
        for (int[] b : bad) {
            Due.is("8: BAD " + b[0] + " " + b[1] + " " + b[2], x.move(b[0], b[1], b[2]), BAD);
        }
        Due.book("8: BAD", x);
    }

    private static void promise8MoveWithinOneVault() {
        VaultHands x = new VaultHands();
        Due.vault(x, 10, 6);
        Due.is("8: within one", x.move(0, 0, 4), 6);
        Due.book("8: within one", x, 100, 101, 100, 101, 201, 200, 201, 200);
        Due.is("8: within one, above the limit", x.move(0, 0, 5), DENIED);
        Due.is("8: within one, too much", x.move(0, 0, 7), ALARM);
        Due.is("8: sum", x.sum(0), 6);
    }

    private static void promise8MoveMissing() {
        VaultHands x = new VaultHands();
        Due.vault(x, 10, 6);
        Due.vault(x, 10, 0);
        x.hang(1, 1, NONE);
        Due.is("8: b's right is bare", x.move(0, 1, 1), MISSING);
        Due.book("8: b's right is bare", x, 100, 101, 102, 11, 302, 301, 300);
        x.hang(1, 0, NONE);
        Due.is("8: b's left is bare", x.move(0, 1, 9), MISSING);
        Due.book("8: b's left is bare", x, 100, 101, 10, 301, 300);
        x.hang(0, 1, NONE);
        Due.is("8: a's right is bare", x.move(0, 1, 1), MISSING);
        Due.book("8: a's right is bare", x, 100, 11, 300);
        x.hang(0, 0, NONE);
        Due.is("8: a's left is bare", x.move(0, 1, 1), MISSING);
        Due.book("8: a's left is bare", x, 10);
        Due.is("8: a", x.sum(0), 6);
        Due.is("8: b", x.sum(1), 0);
        Due.is("8: no alarms", x.alarms(), 0);
    }

    private static void promise8MoveJammed() {
        VaultHands x = new VaultHands();
        x.key(2, true);
        x.key(9, false);
        x.key(1, false);
        for (int v = 0; v < 3; v++) {
            x.vault(10);
            x.hang(v, 0, v == 2 ? 2 : 0);
            x.hang(v, 1, 1);
        }
        Due.is("8: two of two teeth", x.move(0, 1, 0), 0);
        x.clear();
        x.hang(1, 1, 0);
        Due.is("8: jammed at b's right", x.move(0, 1, 0), JAMMED);
        Due.book("8: jammed at b's right", x, 100, 101, 100, 700, 600, 601, 600);
        x.hang(0, 1, 0);
        Due.is("8: jammed at b's left", x.move(0, 1, 0), JAMMED);
        Due.book("8: jammed at b's left", x, 100, 100, 700, 600, 600);
        x.hang(2, 1, 2);
        Due.is("8: jammed at a's right", x.move(2, 0, 0), JAMMED);
        Due.book("8: jammed at a's right", x, 102, 702, 602);
        Due.is("8: alarms", x.alarms(), 3);
        Due.is("8: wear of a master", x.wear(0), 2 * 6);
    }

    private static void promise9Split() {
        VaultHands x = new VaultHands();
        Due.vault(x, 2000, 1999);
        Due.is("9: split", x.split(0, 2), 999);
        Due.book("9: split", x, 100, 101, 201, 200);
        Due.is("9: by 1", x.split(0, 1), 1999);
        Due.is("9: by 1000", x.split(0, 1000), 1);
        x.clear();
        Due.is("9: by 0", x.split(0, 0), BROKEN);
        Due.book("9: by 0", x, 100, 101, 601, 600);
        Due.is("9: alarms", x.alarms(), 1);
        Due.is("9: sum", x.sum(0), 1999);
        int[][] bad = {{0, -1}, {0, 1001}, {1, 1}, {-1, 0}, {0, LOW}, {0, HIGH}, {LOW, 0}, {HIGH, 1}};
        for (int[] b : bad) {
            Due.is("9: BAD " + b[0] + " " + b[1], x.split(b[0], b[1]), BAD);
        }
        Due.book("9: BAD", x);
        x.take(0, 1999);
        Due.is("9: nothing", x.split(0, 7), 0);
        Due.is("9: alarms", x.alarms(), 1);
    }

    private static void promise9SplitMissingAndJammed() {
        VaultHands x = new VaultHands();
        Due.vault(x, 10, 5);
        x.hang(0, 1, NONE);
        Due.is("9: right is bare", x.split(0, 0), MISSING);
        Due.book("9: right is bare", x, 100, 11, 300);
        x.hang(0, 0, NONE);
        Due.is("9: left is bare", x.split(0, 0), MISSING);
        Due.book("9: left is bare", x, 10);
        Due.is("9: no alarms", x.alarms(), 0);
        x = jamming();
        Due.is("9: jammed", x.split(0, 0), JAMMED);
        Due.book("9: jammed", x, 100, 700, 600);
        Due.is("9: a jam is one alarm", x.alarms(), 1);
    }

    private static void promise10Swap() {
        VaultHands x = new VaultHands();
        Due.vault(x, 10, 5);
        Due.is("10: swap", x.swap(0), 1);
        Due.book("10: those that were turned", x, 100, 101, 201, 200);
        Due.is("10: left", x.hung(0, 0), 1);
        Due.is("10: right", x.hung(0, 1), 0);
        Due.is("10: swap back", x.swap(0), 0);
        Due.book("10: swap back", x, 101, 100, 200, 201);
        x.hang(0, 1, 0);
        Due.is("10: the same one at both", x.swap(0), 0);
        Due.book("10: the same one at both", x, 100, 100, 200, 200);
        int[] bad = {1, -1, LOW, HIGH};
        for (int v : bad) {
            Due.is("10: BAD " + v, x.swap(v), BAD);
        }
        Due.book("10: BAD", x);
        Due.is("10: sum", x.sum(0), 5);
    }

    private static void promise10SwapMissingAndJammed() {
        VaultHands x = new VaultHands();
        Due.vault(x, 10, 0);
        x.hang(0, 1, NONE);
        Due.is("10: right is bare", x.swap(0), MISSING);
        Due.book("10: right is bare", x, 100, 11, 300);
        Due.is("10: left stays", x.hung(0, 0), 0);
        Due.is("10: right stays", x.hung(0, 1), NONE);
        x.hang(0, 0, NONE);
        x.hang(0, 1, 1);
        Due.is("10: left is bare", x.swap(0), MISSING);
        Due.book("10: left is bare", x, 10);
        Due.is("10: right stays", x.hung(0, 1), 1);
        x = jamming();
        Due.is("10: jammed", x.swap(0), JAMMED);
        Due.book("10: jammed", x, 100, 700, 600);
        Due.is("10: alarms", x.alarms(), 1);
    }

    private static void promise11Polish() {
        VaultHands x = new VaultHands();
        x.key(1, false);
        x.key(1, true);
        Due.is("11: new key", x.polish(0), 1);
        Due.book("11: new key", x, 100, 200);
        Due.is("11: wear is 0", x.wear(0), 0);
        Due.is("11: new master", x.polish(1), 2);
        Due.is("11: again", x.polish(1), 2);
        Due.book("11: again", x, 101, 201, 101, 201);
        x.vault(5);
        x.hang(0, 0, 0);
        x.hang(0, 1, 1);
        x.put(0, 1);
        x.put(0, 9);
        x.clear();
        Due.is("11: worn key", x.polish(0), 3);
        Due.is("11: the other one is worn still", x.wear(1), 4);
        Due.is("11: worn master", x.polish(1), 6);
        x.clear();
        int[] bad = {2, -1, LOW, HIGH};
        for (int k : bad) {
            Due.is("11: BAD " + k, x.polish(k), BAD);
        }
        Due.book("11: BAD", x);
        Due.is("11: alarms", x.alarms(), 0);
    }

    /** VAULTS 0 .. 4 with SUMS 2, 0, 1, 3, 4; VAULT 2 is BARE at the left HAND. */
    private static VaultHands row() {
        VaultHands x = new VaultHands();
        int[] sums = {2, 0, 1, 3, 4};
        for (int sum : sums) {
            Due.vault(x, 10, sum);
        }
        x.hang(2, 0, NONE);
        return x;
    }

    private static void sums(String what, VaultHands x, int... due) {
        for (int v = 0; v < due.length; v++) {
            Due.is(what + ": sum " + v, x.sum(v), due[v]);
        }
    }

    private static void promise12Rounds() {
        VaultHands x = row();
        Due.is("12: rounds", x.rounds(0, 5, 12), 3);
        Due.book("12: rounds", x, 100, 200, 102, 502, 10, 106, 206, 108, 208);
        sums("12", x, 1, 0, 1, 2, 3);
        Due.is("12: one vault, nothing there", x.rounds(1, 1, 1), 0);
        Due.book("12: one vault, nothing there", x, 102, 502);
        Due.is("12: one vault, bare", x.rounds(2, 1, 1), 0);
        Due.book("12: one vault, bare", x, 10);
        Due.is("12: right hand is not looked at", x.hang(4, 1, NONE), 9);
        Due.is("12: the last vault", x.rounds(4, 1, 2), 1);
        Due.book("12: the last vault", x, 108, 208);
        Due.is("12: no alarms", x.alarms(), 0);
        x.key(1, false);
        x.hang(4, 0, 10);
        x.hang(3, 0, 10);
        Due.is("12: one tooth is enough", x.rounds(3, 2, 12), 2);
        Due.book("12: one tooth is enough", x, 110, 210, 110, 210);
    }

    private static void promise12RoundsStop() {
        VaultHands x = row();
        Due.is("12: stop at the 1st", x.rounds(0, 5, 1), 1);
        Due.book("12: stop at the 1st", x, 100, 400);
        Due.is("12: stop at the 2nd", x.rounds(0, 5, 2), 2);
        Due.book("12: stop at the 2nd", x, 100, 200, 102, 502, 10, 106, 406);
        sums("12", x, 0, 0, 1, 2, 4);
        Due.is("12: stop at the last", x.rounds(3, 2, 2), 2);
        Due.book("12: stop at the last", x, 106, 206, 108, 408);
    }

    private static void promise12RoundsBad() {
        VaultHands x = row();
        int[][] bad = {{0, 6, 1}, {0, 0, 1}, {0, 13, 1}, {-1, 2, 1}, {5, 1, 1}, {4, 2, 1}, {0, 1, 0}, {0, 1, 13}, {0, 1, -1},
            {LOW, 1, 1}, {HIGH, 1, 1}, {1, HIGH, 1}, {0, LOW, 1}, {0, 1, LOW}, {0, 1, HIGH}, {HIGH, HIGH, 1}, {0, -1, 1}};
        for (int[] b : bad) {
            Due.is("12: BAD " + b[0] + " " + b[1] + " " + b[2], x.rounds(b[0], b[1], b[2]), BAD);
        }
        Due.book("12: BAD", x);
        sums("12: BAD", x, 2, 0, 1, 3, 4);
        VaultHands y = new VaultHands();
        for (int v = 0; v < 12; v++) {
            Due.vault(y, 1, 1);
        }
        Due.is("12: 12 of 12", y.rounds(0, 12, 12), 12);
        Due.is("12: not so many there", y.rounds(1, 12, 12), BAD);
        Due.is("12: the last entry", y.entry(23), 422);
    }

    private static void promise13Sweep() {
        VaultHands x = row();
        Due.is("13: sweep, stop within", x.sweep(0, 5, 4), 4);
        Due.book("13: stop within", x, 100, 101, 201, 200, 102, 103, 203, 202, 10, 106, 107, 407, 406);
        sums("13", x, 0, 0, 1, 1, 4);
        Due.is("13: sweep, stop by all of one", x.sweep(3, 2, 1), 1);
        Due.book("13: stop by all of one", x, 106, 107, 407, 406);
        Due.is("13: sweep to the end", x.sweep(0, 5, 1000000), 4);
        Due.book("13: to the end", x, 100, 101, 201, 200, 102, 103, 203, 202, 10, 106, 107, 207, 206, 108, 109, 209, 208);
        sums("13", x, 0, 0, 1, 0, 0);
        Due.is("13: nothing there", x.sweep(0, 2, 1), 0);
        Due.is("13: no alarms", x.alarms(), 0);
    }

    private static void promise13SweepBare() {
        VaultHands x = row();
        x.hang(3, 1, NONE);
        Due.is("13: right is bare", x.sweep(2, 3, 2), 2);
        Due.book("13: right is bare", x, 10, 106, 11, 506, 108, 109, 409, 408);
        sums("13: bare", x, 2, 0, 1, 3, 2);
        Due.is("13: nothing but bare ones", x.sweep(2, 2, 2), 0);
        Due.book("13: nothing but bare ones", x, 10, 106, 11, 506);
        Due.is("13: no alarms", x.alarms(), 0);
    }

    private static void promise13SweepJammed() {
        VaultHands x = row();
        int k = x.key(1, true);
        x.hang(3, 0, k);
        x.hang(3, 1, k);
        Due.is("13: jammed", x.sweep(0, 5, 1000000), JAMMED);
        Due.book("13: jammed", x, 100, 101, 201, 200, 102, 103, 203, 202, 10, 110, 710, 610);
        sums("13: less stays so", x, 0, 0, 1, 3, 4);
        Due.is("13: alarms", x.alarms(), 1);
        Due.is("13: wear", x.wear(k), 2);
        Due.is("13: over ahead of the jam", x.sweep(4, 1, 4), 4);
    }

    private static void promise13SweepBad() {
        VaultHands x = row();
        int[][] bad = {{0, 6, 1}, {0, 0, 1}, {0, 13, 1}, {-1, 2, 1}, {5, 1, 1}, {4, 2, 1}, {0, 1, 0}, {0, 1, 1000001},
            {LOW, 1, 1}, {HIGH, 1, 1}, {1, HIGH, 1}, {0, LOW, 1}, {0, 1, LOW}, {0, 1, HIGH}, {HIGH, HIGH, 1}, {0, 1, -1}};
        for (int[] b : bad) {
            Due.is("13: BAD " + b[0] + " " + b[1] + " " + b[2], x.sweep(b[0], b[1], b[2]), BAD);
        }
        Due.book("13: BAD", x);
        sums("13: BAD", x, 2, 0, 1, 3, 4);
        VaultHands y = new VaultHands();
        for (int v = 0; v < 12; v++) {
            Due.vault(y, 1000000, 1000000);
        }
        Due.is("13: 12 of 12", y.sweep(0, 12, 1000000), 1000000);
        Due.is("13: not so many there", y.sweep(1, 12, 1), BAD);
    }

    private static void promise14Walk() {
        VaultHands x = row();
        Due.is("14: no next", x.walk(0, 60, 2), 2);
        Due.book("14: no next", x, 100, 200);
        x.link(0, 3);
        x.link(3, 1);
        x.link(1, 2);
        x.link(2, 4);
        Due.is("14: till a bare one", x.walk(0, 60, 5), 5);
        Due.book("14: till a bare one", x, 100, 106, 102, 10, 202, 206, 200);
        Due.is("14: till most", x.walk(0, 2, 100), 5);
        Due.book("14: till most", x, 100, 106, 206, 200);
        Due.is("14: bare at first", x.walk(2, 60, 0), 0);
        Due.book("14: bare at first", x, 10);
        x.hang(3, 1, NONE);
        Due.is("14: right is not looked at", x.walk(3, 1, HIGH), 3);
        sums("14", x, 2, 0, 1, 3, 4);
        Due.is("14: no alarms", x.alarms(), 0);
    }

    private static void promise14WalkInACircle() {
        VaultHands x = new VaultHands();
        for (int v = 0; v < 12; v++) {
            Due.vault(x, 1000000, 1000000);
            x.link(v, 0);
        }
        for (int v = 0; v < 11; v++) {
            x.link(v, v + 1);
        }
        x.clear();
        Due.is("14: the longest", x.walk(0, 60, 60000000), 60000000);
        Due.is("14: the longest", x.entries(), 120);
        for (int i = 0; i < 60; i++) {
            Due.is("14: turn " + i, x.entry(i), 100 + i % 12 * 2);
            Due.is("14: let go " + i, x.entry(119 - i), 200 + i % 12 * 2);
        }
        Due.is("14: above n at the last", x.walk(0, 60, 59999999), ALARM);
        Due.is("14: above n at the last", x.clear(), 240);
        Due.is("14: wear", x.wear(0), 1 + 5 + 5);
    }

    private static void promise14WalkAlarm() {
        VaultHands x = row();
        x.link(0, 3);
        x.link(3, 4);
        Due.is("14: above n", x.walk(0, 3, 4), ALARM);
        Due.book("14: above n", x, 100, 106, 606, 600);
        Due.is("14: above n at most", x.walk(0, 2, 4), ALARM);
        Due.is("14: above n where there is no next", x.walk(4, 60, 3), ALARM);
        Due.is("14: not above n", x.walk(4, 60, 4), 4);
        Due.is("14: above 0 at once", x.walk(0, 1, 0), ALARM);
        Due.is("14: 0 is not above 0", x.walk(1, 1, 0), 0);
        Due.is("14: alarms", x.alarms(), 4);
    }

    private static void promise14WalkJammed() {
        VaultHands x = row();
        int k = x.key(3, false);
        x.hang(0, 0, k);
        x.hang(3, 0, k);
        x.link(0, 3);
        x.link(3, 4);
        x.link(4, 0);
        Due.is("14: as often as teeth", x.walk(0, 4, 100), 11);
        x.clear();
        x.link(4, 3);
        x.link(3, 0);
        Due.is("14: jammed", x.walk(4, 60, 100), JAMMED);
        Due.book("14: jammed", x, 108, 110, 110, 110, 710, 610, 610, 610, 608);
        Due.is("14: alarms", x.alarms(), 1);
        Due.is("14: all was let go", x.walk(3, 3, 100), 8);
    }

    private static void promise14WalkBad() {
        VaultHands x = row();
        int[][] bad = {{5, 1, 1}, {-1, 1, 1}, {0, 0, 1}, {0, 61, 1}, {0, 1, -1}, {LOW, 1, 1}, {HIGH, 1, 1},
            {0, LOW, 1}, {0, HIGH, 1}, {0, 1, LOW}, {0, -1, 1}};
        for (int[] b : bad) {
            Due.is("14: BAD " + b[0] + " " + b[1] + " " + b[2], x.walk(b[0], b[1], b[2]), BAD);
        }
        Due.book("14: BAD", x);
        Due.is("14: no alarms", x.alarms(), 0);
    }
}
