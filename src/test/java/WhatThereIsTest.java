/** Promises 1 to 5. */
public final class WhatThereIsTest {
    private static final int NONE = VaultHands.NONE, BAD = VaultHands.BAD, FULL = VaultHands.FULL;

    public static void main(String[] args) {
        promise1NewObject();
        promise1ObjectsShareNothing();
        promise2Key();
        promise2TeethAndMaster();
        promise3Vault();
        promise3Limit();
        promise4Hang();
        promise4SameKeyAtManyHands();
        promise5Link();
        Due.end();
    }

    private static void promise1NewObject() {
        VaultHands x = new VaultHands();
        Due.is("1: wear", x.wear(0), BAD);
        Due.is("1: sum", x.sum(0), BAD);
        Due.is("1: hung", x.hung(0, 0), BAD);
        Due.is("1: orders", x.orders(), 0);
        Due.is("1: entries", x.entries(), 0);
        Due.is("1: entry", x.entry(0), NONE);
        Due.is("1: alarms", x.alarms(), 0);
        Due.is("1: run", x.run(), 0);
        Due.is("1: clear", x.clear(), 0);
        Due.is("1: first key", x.key(1, false), 0);
        Due.is("1: first vault", x.vault(0), 0);
    }

    private static void promise1ObjectsShareNothing() {
        VaultHands x = new VaultHands();
        Due.vault(x, 10, 5);
        x.put(0, 1);
        x.take(0, 9);
        x.order(4, 0, 0, 0);
        VaultHands y = new VaultHands();
        Due.is("1: key of another", y.wear(0), BAD);
        Due.is("1: vault of another", y.sum(0), BAD);
        Due.is("1: entries of another", y.entries(), 0);
        Due.is("1: alarms of another", y.alarms(), 0);
        Due.is("1: orders of another", y.orders(), 0);
    }

    private static void promise2Key() {
        VaultHands x = new VaultHands();
        int[] bad = {0, 10, -1, Integer.MIN_VALUE, Integer.MAX_VALUE};
        for (int teeth : bad) {
            Due.is("2: key " + teeth, x.key(teeth, true), BAD);
        }
        Due.is("2: no key by BAD", x.wear(0), BAD);
        for (int k = 0; k < 40; k++) {
            Due.is("2: key", x.key(k % 2 == 0 ? 1 : 9, k % 3 == 0), k);
            Due.is("2: new wear", x.wear(k), 0);
        }
        Due.is("2: 41st key", x.key(1, false), FULL);
        Due.is("2: BAD ahead of FULL", x.key(0, false), BAD);
        Due.is("2: BAD ahead of FULL", x.key(10, false), BAD);
        Due.is("2: no 41st key", x.wear(40), BAD);
        Due.is("2: entries", x.entries(), 0);
    }

    private static void promise2TeethAndMaster() {
        for (int teeth = 1; teeth <= 9; teeth++) {
            VaultHands x = new VaultHands();
            int k = x.key(teeth, teeth % 2 == 0);
            x.vault(0);
            x.hang(0, 0, k);
            x.link(0, 0);
            Due.is("2: held as often as it has teeth", x.walk(0, teeth, 0), 0);
            Due.is("2: held once too often", x.walk(0, teeth + 1, 0), VaultHands.JAMMED);
            Due.is("2: wear by turns", x.wear(k), 2 * teeth * (teeth % 2 == 0 ? 2 : 1));
        }
    }

    private static void promise3Vault() {
        VaultHands x = new VaultHands();
        int[] bad = {-1, 1000001, Integer.MIN_VALUE, Integer.MAX_VALUE};
        for (int limit : bad) {
            Due.is("3: vault " + limit, x.vault(limit), BAD);
        }
        Due.is("3: no vault by BAD", x.sum(0), BAD);
        for (int v = 0; v < 12; v++) {
            Due.is("3: vault", x.vault(v % 2 == 0 ? 0 : 1000000), v);
            Due.is("3: new sum", x.sum(v), 0);
            Due.is("3: new left hand", x.hung(v, 0), NONE);
            Due.is("3: new right hand", x.hung(v, 1), NONE);
            Due.is("3: new next", x.link(v, NONE), NONE);
        }
        Due.is("3: 13th vault", x.vault(1), FULL);
        Due.is("3: BAD ahead of FULL", x.vault(-1), BAD);
        Due.is("3: BAD ahead of FULL", x.vault(1000001), BAD);
        Due.is("3: no 13th vault", x.sum(12), BAD);
    }

    private static void promise3Limit() {
        VaultHands x = new VaultHands();
        int none = Due.vault(x, 0, 0);
        int most = Due.vault(x, 1000000, 0);
        Due.is("3: 0 at limit 0", x.put(none, 0), 0);
        Due.is("3: 1 at limit 0", x.put(none, 1), VaultHands.DENIED);
        Due.is("3: all at limit 1000000", x.put(most, 1000000), 1000000);
        Due.is("3: 1 more at limit 1000000", x.put(most, 1), VaultHands.DENIED);
    }

    private static void promise4Hang() {
        VaultHands x = new VaultHands();
        x.key(1, false);
        x.key(1, false);
        x.vault(1);
        Due.is("4: first at left", x.hang(0, 0, 0), NONE);
        Due.is("4: first at right", x.hang(0, 1, 1), NONE);
        Due.is("4: left", x.hung(0, 0), 0);
        Due.is("4: right", x.hung(0, 1), 1);
        Due.is("4: another at left", x.hang(0, 0, 1), 0);
        Due.is("4: the same again", x.hang(0, 0, 1), 1);
        int[][] bad = {{1, 0, 0}, {-1, 0, 0}, {0, 2, 0}, {0, -1, 0}, {0, 0, 2}, {0, 0, -2},
            {Integer.MAX_VALUE, 0, 0}, {0, Integer.MAX_VALUE, 0}, {0, 0, Integer.MIN_VALUE}, {1, 0, NONE}, {0, 2, NONE}};
        for (int[] b : bad) {
            Due.is("4: BAD " + b[0] + " " + b[1] + " " + b[2], x.hang(b[0], b[1], b[2]), BAD);
        }
        Due.is("4: left after BAD", x.hung(0, 0), 1);
        Due.is("4: none at left", x.hang(0, 0, NONE), 1);
        Due.is("4: none again", x.hang(0, 0, NONE), NONE);
        Due.is("4: left is bare", x.hung(0, 0), NONE);
        Due.is("4: right stays", x.hung(0, 1), 1);
        Due.is("4: entries", x.entries(), 0);
    }

    private static void promise4SameKeyAtManyHands() {
        VaultHands x = new VaultHands();
        x.key(2, false);
        for (int v = 0; v < 12; v++) {
            x.vault(5);
            Due.is("4: left", x.hang(v, 0, 0), NONE);
            Due.is("4: right", x.hang(v, 1, 0), NONE);
        }
        for (int v = 0; v < 12; v++) {
            Due.is("4: put", x.put(v, v % 6), v % 6);
        }
        Due.is("4: wear", x.wear(0), 24);
    }

    private static void promise5Link() {
        VaultHands x = new VaultHands();
        x.vault(1);
        x.vault(1);
        Due.is("5: first", x.link(0, 1), NONE);
        Due.is("5: to itself", x.link(0, 0), 1);
        Due.is("5: of the other", x.link(1, 0), NONE);
        int[][] bad = {{2, 0}, {-1, 0}, {0, 2}, {0, -2}, {Integer.MIN_VALUE, NONE}, {0, Integer.MAX_VALUE}, {2, NONE}};
        for (int[] b : bad) {
            Due.is("5: BAD " + b[0] + " " + b[1], x.link(b[0], b[1]), BAD);
        }
        Due.is("5: none", x.link(0, NONE), 0);
        Due.is("5: none again", x.link(0, NONE), NONE);
        Due.is("5: the other stays", x.link(1, 1), 0);
        Due.is("5: entries", x.entries(), 0);
    }
}
