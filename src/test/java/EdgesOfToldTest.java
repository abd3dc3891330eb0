/** The boundary cases of promises 17 to 23, sentence by sentence. */
public final class EdgesOfToldTest {
    private static final int NONE = Busy.NONE, BAD = Busy.BAD, LOW = Busy.LOW, HIGH = Busy.HIGH;

    public static void main(String[] args) {
        p17NoSuchVault();
        p17FirstAndLast();
        p17SumAtBothEnds();
        p18NoSuchVaultOrHand();
        p18FirstAndLast();
        p19NoSuchKey();
        p19FirstAndLast();
        p19ByEachTurn();
        p20AroundFourHundred();
        p20SinceClear();
        p21NoneSuch();
        p21NoneSuchInAnEmptyBook();
        p21FirstAndLastKept();
        p21ACallAcrossTheLastOne();
        p21KeptSinceClear();
        p22EmptyBook();
        p22CountsWhatIsNotKept();
        p22NothingElseChanges();
        p23WhatIsAnAlarm();
        p23WhatIsNone();
        Due.end();
    }

    private static void p17NoSuchVault() {
        for (int v : Busy.NO_VAULTS) {
            Busy.isBad("17: sum(" + v + ")", x -> x.sum(v));
        }
    }

    private static void p17FirstAndLast() {
        Busy.answers("17: sum(0)", x -> x.sum(0), 40, Busy.told());
        Busy.answers("17: sum(2)", x -> x.sum(2), 0, Busy.told());
        VaultHands x = new VaultHands();
        for (int v = 0; v < 12; v++) {
            Due.is("17: no vault yet", x.sum(v), BAD);
            x.vault(v);
            Due.is("17: a new vault", x.sum(v), 0);
        }
        Due.is("17: sum(12) of 12", x.sum(12), BAD);
    }

    private static void p17SumAtBothEnds() {
        VaultHands x = new VaultHands();
        Due.vault(x, 1000000, 0);
        Due.is("17: the least", x.sum(0), 0);
        x.put(0, 1000000);
        Due.is("17: the most", x.sum(0), 1000000);
        x.put(0, 1);
        Due.is("17: no more than that", x.sum(0), 1000000);
        x.take(0, 1000000);
        x.take(0, 1);
        Due.is("17: no less than 0", x.sum(0), 0);
    }

    private static void p18NoSuchVaultOrHand() {
        for (int v : Busy.NO_VAULTS) {
            Busy.isBad("18: hung(" + v + ", 0)", x -> x.hung(v, 0));
            Busy.isBad("18: hung(" + v + ", 1)", x -> x.hung(v, 1));
        }
        for (int hand : Busy.NO_HANDS) {
            Busy.isBad("18: hung(0, " + hand + ")", x -> x.hung(0, hand));
            Busy.isBad("18: hung(2, " + hand + ")", x -> x.hung(2, hand));
        }
    }

    private static void p18FirstAndLast() {
        Busy.answers("18: hung(0, 0)", x -> x.hung(0, 0), 0, Busy.told());
        Busy.answers("18: hung(0, 1)", x -> x.hung(0, 1), 1, Busy.told());
        Busy.answers("18: hung(2, 0)", x -> x.hung(2, 0), 2, Busy.told());
        Busy.answers("18: hung(2, 1)", x -> x.hung(2, 1), NONE, Busy.told());
        VaultHands x = new VaultHands();
        for (int v = 0; v < 12; v++) {
            Due.is("18: no vault yet", x.hung(v, 1), BAD);
            x.vault(v);
            Due.is("18: none at first", x.hung(v, 0), NONE);
            Due.is("18: none at first", x.hung(v, 1), NONE);
        }
        Due.is("18: hung(12, 0) of 12", x.hung(12, 0), BAD);
    }

    private static void p19NoSuchKey() {
        for (int k : Busy.NO_KEYS) {
            Busy.isBad("19: wear(" + k + ")", x -> x.wear(k));
        }
        Busy.isBad("19: wear(NONE)", x -> x.wear(NONE));
    }

    private static void p19FirstAndLast() {
        Busy.answers("19: wear(0)", x -> x.wear(0), 4, Busy.told());
        Busy.answers("19: wear(2)", x -> x.wear(2), 0, Busy.told());
        VaultHands x = new VaultHands();
        for (int k = 0; k < 40; k++) {
            Due.is("19: no key yet", x.wear(k), BAD);
            x.key(9, true);
            Due.is("19: a new key", x.wear(k), 0);
        }
        Due.is("19: wear(40) of 40", x.wear(40), BAD);
    }

    /** 1 more of a KEY, of a MASTER 2; nothing by a jam, by a BARE HAND, or by letting go. */
    private static void p19ByEachTurn() {
        VaultHands x = new VaultHands();
        x.key(1, false);
        x.key(1, true);
        x.vault(9);
        x.link(0, 0);
        for (int k = 0; k <= 1; k++) {
            x.hang(0, 0, k);
            x.walk(0, 1, 0);
            Due.is("19: a turn", x.wear(k), 1 + k);
            x.walk(0, 2, 0);
            Due.is("19: a turn and a jam", x.wear(k), 2 * (1 + k));
            x.put(0, 1);
            Due.is("19: a turn and a bare hand", x.wear(k), 3 * (1 + k));
        }
        Due.is("19: the other one stays", x.wear(0), 3);
    }

    /** KEY 0 polished till there are so many ENTRIES, an even number. */
    private static VaultHands bookOf(int many) {
        VaultHands x = new VaultHands();
        x.key(1, false);
        x.key(9, false);
        x.vault(0);
        x.hang(0, 0, 1);
        for (int i = 0; i < many; i += 2) {
            x.polish(0);
        }
        return x;
    }

    /** One ENTRY alone: a HAND that is BARE. */
    private static void oneEntry(VaultHands x) {
        x.hang(0, 0, NONE);
        x.put(0, 0);
        x.hang(0, 0, 1);
    }

    private static void p20AroundFourHundred() {
        VaultHands x = bookOf(398);
        for (int many = 399; many <= 402; many++) {
            oneEntry(x);
            Due.is("20: entries", x.entries(), many);
            Due.is("20: kept", x.entry(Math.min(many, 400) - 1), 10);
            Due.is("20: not kept", x.entry(Math.min(many, 400)), NONE);
        }
    }

    private static void p20SinceClear() {
        VaultHands x = bookOf(402);
        Due.is("20: entries", x.entries(), 402);
        x.clear();
        Due.is("20: none since clear", x.entries(), 0);
        oneEntry(x);
        Due.is("20: one since clear", x.entries(), 1);
        Due.is("20: looking changes nothing", x.entries(), 1);
    }

    private static void p21NoneSuch() {
        for (int i : new int[] {LOW, LOW + 1, -400, -2, -1, 16, 17, 399, 400, 401, HIGH - 1, HIGH}) {
            Busy.answers("21: entry(" + i + ")", x -> x.entry(i), NONE, Busy.told());
        }
        Busy.answers("21: entry(0)", x -> x.entry(0), 100, Busy.told());
        Busy.answers("21: entry(15)", x -> x.entry(15), 601, Busy.told());
    }

    private static void p21NoneSuchInAnEmptyBook() {
        VaultHands x = new VaultHands();
        for (int i : new int[] {LOW, -1, 0, 1, 399, 400, HIGH}) {
            Due.is("21: entry(" + i + ") of an empty book", x.entry(i), NONE);
        }
        new Told().look("21: an empty book", x);
    }

    private static void p21FirstAndLastKept() {
        VaultHands x = bookOf(400);
        Due.is("21: entries", x.entries(), 400);
        Due.is("21: the first", x.entry(0), 100);
        Due.is("21: the 399th", x.entry(398), 100);
        Due.is("21: the 400th", x.entry(399), 200);
        Due.is("21: the 401st", x.entry(400), NONE);
        x.polish(1);
        Due.is("21: entries", x.entries(), 402);
        Due.is("21: the first stays", x.entry(0), 100);
        Due.is("21: the second stays", x.entry(1), 200);
        Due.is("21: the 400th stays", x.entry(399), 200);
        for (int i : new int[] {400, 401, 402, LOW, -1, HIGH}) {
            Due.is("21: entry(" + i + ") of 402", x.entry(i), NONE);
        }
    }

    private static void p21ACallAcrossTheLastOne() {
        VaultHands x = bookOf(398);
        oneEntry(x);
        Due.is("21: the call across the last one", x.polish(1), 1);
        Due.is("21: kept", x.entry(398), 10);
        Due.is("21: the last that is kept", x.entry(399), 101);
        Due.is("21: counted alone", x.entry(400), NONE);
        Due.is("21: counted", x.entries(), 401);
        Due.is("21: all is done as before", x.wear(1), 0);
        Due.is("21: and let go", x.walk(0, 1, 0), 0);
        Due.is("21: counted alone, too", x.entries(), 403);
        Due.is("21: the last stays", x.entry(399), 101);
    }

    private static void p21KeptSinceClear() {
        VaultHands x = bookOf(404);
        x.clear();
        Due.is("21: none is kept", x.entry(0), NONE);
        Due.is("21: none is kept", x.entry(399), NONE);
        for (int i = 0; i < 200; i++) {
            x.polish(1);
        }
        Due.is("21: kept since clear", x.entry(0), 101);
        Due.is("21: kept since clear", x.entry(399), 201);
        Due.is("21: not kept", x.entry(400), NONE);
        x.polish(0);
        Due.is("21: the last stays", x.entry(399), 201);
        Due.is("21: counted since clear", x.entries(), 402);
    }

    private static void p22EmptyBook() {
        VaultHands x = new VaultHands();
        Due.is("22: nothing to clear", x.clear(), 0);
        Due.is("22: nothing to clear, again", x.clear(), 0);
        new Told().look("22: nothing to clear", x);
    }

    private static void p22CountsWhatIsNotKept() {
        for (int many : new int[] {398, 400, 402}) {
            VaultHands x = bookOf(many);
            Due.is("22: clear of " + many, x.clear(), many);
            Due.is("22: clear again", x.clear(), 0);
            new Told().sums(0).lefts(1).rights(NONE).wears(0, 0).look("22: clear of " + many, x);
        }
        VaultHands x = bookOf(398);
        oneEntry(x);
        Due.is("22: clear of 399", x.clear(), 399);
        VaultHands y = bookOf(400);
        oneEntry(y);
        Due.is("22: clear of 401", y.clear(), 401);
    }

    private static void p22NothingElseChanges() {
        Busy.answers("22: clear", x -> x.clear(), 16, Busy.told().book());
        VaultHands x = Busy.desk();
        x.clear();
        Due.is("22: the orders stay", x.run(), 2);
        Busy.told().sums(41, 20, 0).lefts(0, 0, 2).rights(1, 1, NONE).wears(6, 12, 0)
            .book(100, 101, 201, 200, 101, 100, 200, 201).orders(0).look("22: the orders stay", x);
        Due.is("22: the next ones stay", x.link(2, NONE), 0);
    }

    /** Each is one more, however many KEYS are let go by it. */
    private static void p23WhatIsAnAlarm() {
        VaultHands x = Busy.desk();
        x.run();
        Due.is("23: ahead of them", x.alarms(), 1);
        x.take(0, 42);
        Due.is("23: a take", x.alarms(), 2);
        x.move(0, 1, 42);
        Due.is("23: a move", x.alarms(), 3);
        x.split(0, 0);
        Due.is("23: a split by 0", x.alarms(), 4);
        x.walk(0, 2, 60);
        Due.is("23: a walk", x.alarms(), 5);
        x.walk(0, 6, HIGH);
        Due.is("23: a jam of a walk", x.alarms(), 6);
        x.hang(2, 1, 2);
        x.put(2, 0);
        Due.is("23: a jam of a put", x.alarms(), 7);
        x.take(2, 0);
        Due.is("23: a jam of a take", x.alarms(), 8);
        x.move(0, 2, 0);
        Due.is("23: a jam of a move", x.alarms(), 9);
        x.split(2, 0);
        Due.is("23: a jam of a split", x.alarms(), 10);
        x.swap(2);
        Due.is("23: a jam of a swap", x.alarms(), 11);
        x.sweep(2, 1, 1);
        Due.is("23: a jam of a sweep", x.alarms(), 12);
        x.order(1, 0, 0, 42);
        x.run();
        Due.is("23: one of a run", x.alarms(), 13);
    }

    private static void p23WhatIsNone() {
        VaultHands x = Busy.desk();
        x.run();
        x.put(0, 60);
        x.move(0, 1, 31);
        x.put(2, 0);
        x.take(2, 1);
        x.split(2, 0);
        x.swap(2);
        x.move(0, 2, 42);
        x.rounds(0, 3, 1);
        x.sweep(0, 3, 1);
        x.walk(0, 3, 60);
        x.polish(2);
        x.put(0, -1);
        x.key(0, false);
        x.order(4, 0, 0, 0);
        x.run();
        x.clear();
        Due.is("23: none of these", x.alarms(), 1);
        Due.is("23: looking changes nothing", x.alarms(), 1);
    }
}
