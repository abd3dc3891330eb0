import java.util.Arrays;

/** The boundary cases of promises 1 to 5, sentence by sentence. */
public final class EdgesOfThereIsTest {
    private static final int NONE = Busy.NONE, BAD = Busy.BAD, FULL = Busy.FULL, LOW = Busy.LOW, HIGH = Busy.HIGH;

    public static void main(String[] args) {
        theBusyDeskIsAsTold();
        p1NothingIsThere();
        p1NoKeyNoVaultIsBad();
        p2TeethOutsideAreBad();
        p2TeethAtBothEnds();
        p2FortyKeysAtMost();
        p2BadAheadOfFull();
        p3LimitOutsideIsBad();
        p3LimitAtBothEnds();
        p3TwelveVaultsAtMost();
        p3BadAheadOfFull();
        p4NoSuchVault();
        p4NoSuchHand();
        p4NoSuchKey();
        p4NoneIsAKeyHereAlone();
        p4FirstAndLastOfEach();
        p4FirstAndLastOfAFullDesk();
        p5NoSuchVault();
        p5NoSuchNext();
        p5NoneIsANextHereAlone();
        p5FirstAndLastOfEach();
        p5FirstAndLastOfAFullDesk();
        Due.end();
    }

    /** 40 KEYS, 12 VAULTS, 32 ORDERS; KEY 39, a MASTER, hangs at the right HAND of VAULT 11. */
    private static VaultHands full() {
        VaultHands x = new VaultHands();
        for (int k = 0; k < 40; k++) {
            x.key(1 + k % 9, k == 39);
        }
        for (int v = 0; v < 12; v++) {
            x.vault(v);
        }
        x.hang(11, 1, 39);
        x.polish(0);
        for (int i = 0; i < 32; i++) {
            x.order(4, 0, 0, 0);
        }
        return x;
    }

    private static Told toldOfFull() {
        int[] wears = new int[40];
        int[] rights = row(12, NONE);
        rights[11] = 39;
        return new Told().sums(new int[12]).lefts(row(12, NONE)).rights(rights).wears(wears).book(100, 200).orders(32);
    }

    private static int[] row(int many, int number) {
        int[] row = new int[many];
        Arrays.fill(row, number);
        return row;
    }

    /** The ground that the refused calls are tried on; without this they would prove little. */
    private static void theBusyDeskIsAsTold() {
        Busy.told().look("busy", Busy.desk());
        toldOfFull().look("full", full());
    }

    private static void p1NothingIsThere() {
        VaultHands x = new VaultHands();
        new Told().look("1", x);
        Due.is("1: hung", x.hung(0, 0), BAD);
        Due.is("1: run", x.run(), 0);
        Due.is("1: clear", x.clear(), 0);
        new Told().look("1: behind run and clear", x);
    }

    private static void p1NoKeyNoVaultIsBad() {
        VaultHands x = new VaultHands();
        Due.is("1: hang", x.hang(0, 0, NONE), BAD);
        Due.is("1: link", x.link(0, NONE), BAD);
        Due.is("1: put", x.put(0, 0), BAD);
        Due.is("1: take", x.take(0, 0), BAD);
        Due.is("1: move", x.move(0, 0, 0), BAD);
        Due.is("1: split", x.split(0, 0), BAD);
        Due.is("1: swap", x.swap(0), BAD);
        Due.is("1: polish", x.polish(0), BAD);
        Due.is("1: rounds", x.rounds(0, 1, 1), BAD);
        Due.is("1: sweep", x.sweep(0, 1, 1), BAD);
        Due.is("1: walk", x.walk(0, 1, 0), BAD);
        for (int op = 0; op <= 3; op++) {
            Due.is("1: order " + op, x.order(op, 0, 0, 0), BAD);
        }
        new Told().look("1: behind calls on nothing", x);
        Due.is("1: a stop looks at nothing", x.order(4, 0, 0, 0), 1);
        Due.is("1: the first key", x.key(1, false), 0);
        Due.is("1: the first vault", x.vault(0), 0);
    }

    private static void p2TeethOutsideAreBad() {
        int[] bad = {LOW, LOW + 1, -9, -1, 0, 10, 11, HIGH - 1, HIGH};
        for (int teeth : bad) {
            Busy.isBad("2: key(" + teeth + ", false)", x -> x.key(teeth, false));
            Busy.isBad("2: key(" + teeth + ", true)", x -> x.key(teeth, true));
        }
    }

    private static void p2TeethAtBothEnds() {
        for (int teeth : new int[] {1, 2, 8, 9}) {
            Told due = Busy.told().wears(4, 8, 0, 0);
            Busy.answers("2: key(" + teeth + ", false)", x -> x.key(teeth, false), 3, due);
            Busy.answers("2: key(" + teeth + ", true)", x -> x.key(teeth, true), 3, due);
        }
    }

    private static void p2FortyKeysAtMost() {
        VaultHands x = new VaultHands();
        for (int k = 0; k < 39; k++) {
            Due.is("2: key " + k, x.key(9, false), k);
        }
        Due.is("2: no 40th key yet", x.wear(39), BAD);
        Due.is("2: the 40th key", x.key(9, false), 39);
        Due.is("2: the 40th key", x.wear(39), 0);
        VaultHands y = full();
        Due.is("2: the 41st key", y.key(1, false), FULL);
        Due.is("2: the 41st key", y.key(9, true), FULL);
        toldOfFull().look("2: the 41st key", y);
        Due.is("2: the 40th is a master still", y.polish(39), 2);
        Due.is("2: a vault has room of its own", x.vault(0), 0);
    }

    private static void p2BadAheadOfFull() {
        VaultHands x = full();
        for (int teeth : new int[] {LOW, -1, 0, 10, HIGH}) {
            Due.is("2: BAD ahead of FULL, " + teeth, x.key(teeth, true), BAD);
        }
        toldOfFull().look("2: BAD ahead of FULL", x);
    }

    private static void p3LimitOutsideIsBad() {
        int[] bad = {LOW, LOW + 1, -1000000, -2, -1, 1000001, 1000002, HIGH - 1, HIGH};
        for (int limit : bad) {
            Busy.isBad("3: vault(" + limit + ")", x -> x.vault(limit));
        }
    }

    private static void p3LimitAtBothEnds() {
        for (int limit : new int[] {0, 1, 999999, 1000000}) {
            VaultHands x = Busy.desk();
            Due.is("3: vault(" + limit + ")", x.vault(limit), 3);
            Busy.told().sums(40, 20, 0, 0).lefts(0, 1, 2, NONE).rights(1, 0, NONE, NONE).look("3: vault(" + limit + ")", x);
            Due.is("3: no next", x.link(3, NONE), NONE);
            x.hang(3, 0, 0);
            x.hang(3, 1, 1);
            if (limit < 1000000) {
                Due.is("3: above limit " + limit, x.put(3, limit + 1), Busy.DENIED);
            }
            Due.is("3: at limit " + limit, x.put(3, limit), limit);
            Due.is("3: 1 more than limit " + limit, x.put(3, 1), Busy.DENIED);
            Due.is("3: the sum", x.sum(3), limit);
        }
    }

    private static void p3TwelveVaultsAtMost() {
        VaultHands x = new VaultHands();
        for (int v = 0; v < 11; v++) {
            Due.is("3: vault " + v, x.vault(5), v);
        }
        Due.is("3: no 12th vault yet", x.sum(11), BAD);
        Due.is("3: the 12th vault", x.vault(5), 11);
        Due.is("3: the 12th vault", x.sum(11), 0);
        VaultHands y = full();
        Due.is("3: the 13th vault", y.vault(0), FULL);
        Due.is("3: the 13th vault", y.vault(1000000), FULL);
        toldOfFull().look("3: the 13th vault", y);
        Due.is("3: no 13th hand", y.hung(12, 0), BAD);
        Due.is("3: a key has room of its own", x.key(1, false), 0);
    }

    private static void p3BadAheadOfFull() {
        VaultHands x = full();
        for (int limit : new int[] {LOW, -1, 1000001, HIGH}) {
            Due.is("3: BAD ahead of FULL, " + limit, x.vault(limit), BAD);
        }
        toldOfFull().look("3: BAD ahead of FULL", x);
    }

    private static void p4NoSuchVault() {
        for (int v : Busy.NO_VAULTS) {
            Busy.isBad("4: hang(" + v + ", 0, 0)", x -> x.hang(v, 0, 0));
            Busy.isBad("4: hang(" + v + ", 1, NONE)", x -> x.hang(v, 1, NONE));
        }
    }

    private static void p4NoSuchHand() {
        for (int hand : Busy.NO_HANDS) {
            Busy.isBad("4: hang(0, " + hand + ", 2)", x -> x.hang(0, hand, 2));
            Busy.isBad("4: hang(0, " + hand + ", NONE)", x -> x.hang(0, hand, NONE));
        }
    }

    private static void p4NoSuchKey() {
        for (int k : Busy.NO_KEYS) {
            Busy.isBad("4: hang(0, 0, " + k + ")", x -> x.hang(0, 0, k));
            Busy.isBad("4: hang(2, 1, " + k + ")", x -> x.hang(2, 1, k));
        }
    }

    private static void p4NoneIsAKeyHereAlone() {
        Busy.answers("4: none at the left", x -> x.hang(0, 0, NONE), 0, Busy.told().lefts(NONE, 1, 2));
        Busy.answers("4: none at the right", x -> x.hang(0, 1, NONE), 1, Busy.told().rights(NONE, 0, NONE));
        Busy.answers("4: none where none was", x -> x.hang(2, 1, NONE), NONE, Busy.told());
    }

    private static void p4FirstAndLastOfEach() {
        Busy.answers("4: hang(0, 0, 2)", x -> x.hang(0, 0, 2), 0, Busy.told().lefts(2, 1, 2));
        Busy.answers("4: hang(0, 1, 0)", x -> x.hang(0, 1, 0), 1, Busy.told().rights(0, 0, NONE));
        Busy.answers("4: hang(2, 0, 0)", x -> x.hang(2, 0, 0), 2, Busy.told().lefts(0, 1, 0));
        Busy.answers("4: hang(2, 1, 2)", x -> x.hang(2, 1, 2), NONE, Busy.told().rights(1, 0, 2));
        Busy.answers("4: the same one again", x -> x.hang(1, 0, 1), 1, Busy.told());
    }

    private static void p4FirstAndLastOfAFullDesk() {
        VaultHands x = full();
        Due.is("4: vault 12 of 12", x.hang(12, 0, 0), BAD);
        Due.is("4: key 40 of 40", x.hang(11, 0, 40), BAD);
        toldOfFull().look("4: one past the last", x);
        Due.is("4: the last of all", x.hang(11, 0, 39), NONE);
        Due.is("4: the last of all", x.hung(11, 0), 39);
        Due.is("4: the last of all, again", x.hang(11, 1, NONE), 39);
    }

    private static void p5NoSuchVault() {
        for (int v : Busy.NO_VAULTS) {
            Busy.isBad("5: link(" + v + ", 0)", x -> x.link(v, 0));
            Busy.isBad("5: link(" + v + ", NONE)", x -> x.link(v, NONE));
        }
    }

    private static void p5NoSuchNext() {
        for (int w : Busy.NO_VAULTS) {
            if (w != NONE) {
                Busy.isBad("5: link(0, " + w + ")", x -> x.link(0, w));
                Busy.isBad("5: link(2, " + w + ")", x -> x.link(2, w));
            }
        }
    }

    private static void p5NoneIsANextHereAlone() {
        VaultHands x = Busy.desk();
        Due.is("5: none from now on", x.link(0, NONE), 1);
        Due.is("5: none was before", x.link(0, NONE), NONE);
        Busy.told().look("5: none", x);
        Due.is("5: the walk is over there", x.walk(0, 60, 40), 40);
        Due.is("5: others stay", x.link(1, NONE), 2);
        Due.is("5: others stay", x.link(2, NONE), 0);
    }

    private static void p5FirstAndLastOfEach() {
        VaultHands x = Busy.desk();
        Due.is("5: link(0, 0)", x.link(0, 0), 1);
        Due.is("5: link(0, 2)", x.link(0, 2), 0);
        Due.is("5: link(2, 2)", x.link(2, 2), 0);
        Due.is("5: link(2, 0)", x.link(2, 0), 2);
        Due.is("5: link(0, 2) again", x.link(0, 2), 2);
        Due.is("5: others stay", x.link(1, 1), 2);
        Busy.told().look("5: nothing else changes", x);
    }

    private static void p5FirstAndLastOfAFullDesk() {
        VaultHands x = full();
        Due.is("5: vault 12 of 12", x.link(12, 0), BAD);
        Due.is("5: next 12 of 12", x.link(11, 12), BAD);
        Due.is("5: the last one", x.link(11, 11), NONE);
        Due.is("5: the last one, again", x.link(11, 0), 11);
        toldOfFull().look("5: a full desk", x);
    }
}
