/** Promises 17 to 23; 24 is among the orders. */
public final class WhatIsToldTest {
    private static final int NONE = VaultHands.NONE, BAD = VaultHands.BAD;
    private static final int LOW = Integer.MIN_VALUE, HIGH = Integer.MAX_VALUE;

    public static void main(String[] args) {
        promise17Sum();
        promise18Hung();
        promise19Wear();
        promise20Entries();
        promise21Entry();
        promise21EntryAcrossTheRoom();
        promise22Clear();
        promise23Alarms();
        Due.end();
    }

    private static void promise17Sum() {
        VaultHands x = new VaultHands();
        Due.vault(x, 100, 30);
        Due.vault(x, 100, 0);
        Due.is("17: sum", x.sum(0), 30);
        Due.is("17: none", x.sum(1), 0);
        int[] bad = {2, 12, -1, LOW, HIGH};
        for (int v : bad) {
            Due.is("17: BAD " + v, x.sum(v), BAD);
        }
        Due.book("17: nothing is turned", x);
    }

    private static void promise18Hung() {
        VaultHands x = new VaultHands();
        Due.vault(x, 100, 0);
        x.hang(0, 0, NONE);
        Due.is("18: none", x.hung(0, 0), NONE);
        Due.is("18: right", x.hung(0, 1), 1);
        int[][] bad = {{1, 0}, {-1, 0}, {0, 2}, {0, -1}, {LOW, 0}, {HIGH, 1}, {0, LOW}, {0, HIGH}};
        for (int[] b : bad) {
            Due.is("18: BAD " + b[0] + " " + b[1], x.hung(b[0], b[1]), BAD);
        }
    }

    private static void promise19Wear() {
        VaultHands x = new VaultHands();
        x.key(2, false);
        x.key(2, true);
        x.vault(3);
        x.hang(0, 0, 0);
        x.hang(0, 1, 1);
        for (int i = 1; i <= 5; i++) {
            x.put(0, 1);
            Due.is("19: wear", x.wear(0), i);
            Due.is("19: wear of a master", x.wear(1), 2 * i);
        }
        int[] bad = {2, 40, -1, LOW, HIGH};
        for (int k : bad) {
            Due.is("19: BAD " + k, x.wear(k), BAD);
        }
    }

    private static void promise20Entries() {
        VaultHands x = new VaultHands();
        x.key(1, false);
        for (int i = 1; i <= 300; i++) {
            x.polish(0);
            if (i % 50 == 0) {
                Due.is("20: entries", x.entries(), 2 * i);
            }
        }
        x.clear();
        Due.is("20: since clear()", x.entries(), 0);
        x.polish(0);
        Due.is("20: since clear()", x.entries(), 2);
    }

    private static void promise21Entry() {
        VaultHands x = new VaultHands();
        x.key(1, false);
        x.key(1, false);
        for (int i = 0; i < 210; i++) {
            x.polish(i < 200 ? 0 : 1);
        }
        Due.is("21: all are counted", x.entries(), 420);
        for (int i = 0; i < 400; i += 57) {
            Due.is("21: kept " + i, x.entry(i), i % 2 == 0 ? 100 : 200);
        }
        Due.is("21: the last that is kept", x.entry(399), 200);
        int[] none = {400, 401, 419, 420, -1, LOW, HIGH};
        for (int i : none) {
            Due.is("21: none such " + i, x.entry(i), NONE);
        }
        x.clear();
        Due.is("21: none behind clear()", x.entry(0), NONE);
        x.polish(1);
        Due.is("21: first behind clear()", x.entry(0), 101);
        Due.is("21: second behind clear()", x.entry(1), 201);
        Due.is("21: an old one is gone", x.entry(2), NONE);
    }

    private static void promise21EntryAcrossTheRoom() {
        VaultHands x = new VaultHands();
        Due.vault(x, 1, 0);
        x.key(1, false);
        x.polish(2);
        for (int i = 0; i < 99; i++) {
            x.put(0, 0);
        }
        Due.is("21: ahead of the last", x.entries(), 398);
        x.put(0, 2);
        Due.is("21: 399th", x.entry(398), 100);
        Due.is("21: 400th", x.entry(399), 101);
        Due.is("21: 401st", x.entry(400), NONE);
        Due.is("21: counted alone", x.clear(), 402);
    }

    private static void promise22Clear() {
        VaultHands x = new VaultHands();
        Due.vault(x, 10, 5);
        x.take(0, 6);
        x.order(4, 0, 0, 0);
        Due.is("22: clear", x.clear(), 4);
        Due.is("22: clear again", x.clear(), 0);
        Due.is("22: alarms stay", x.alarms(), 1);
        Due.is("22: orders stay", x.orders(), 1);
        Due.is("22: sums stay", x.sum(0), 5);
        Due.is("22: wear stays", x.wear(0), 2);
    }

    private static void promise23Alarms() {
        VaultHands x = new VaultHands();
        Due.vault(x, 10, 5);
        int k = x.key(1, false);
        x.vault(10);
        x.hang(1, 0, k);
        x.hang(1, 1, k);
        x.link(1, 1);
        x.put(0, 6);
        x.put(0, -1);
        Due.is("23: neither DENIED nor BAD", x.alarms(), 0);
        x.take(0, 6);
        Due.is("23: take", x.alarms(), 1);
        x.move(0, 0, 6);
        Due.is("23: move", x.alarms(), 2);
        x.split(0, 0);
        Due.is("23: split", x.alarms(), 3);
        x.walk(0, 1, 4);
        Due.is("23: walk", x.alarms(), 4);
        x.walk(1, 2, 4);
        Due.is("23: jammed walk", x.alarms(), 5);
        x.put(1, 0);
        Due.is("23: jammed put", x.alarms(), 6);
        x.sweep(1, 1, 1);
        Due.is("23: jammed sweep", x.alarms(), 7);
        x.hang(0, 1, NONE);
        x.take(0, 6);
        Due.is("23: not MISSING", x.alarms(), 7);
    }
}
