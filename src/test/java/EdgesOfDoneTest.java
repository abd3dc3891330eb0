/** The boundary cases of promises 6 to 11, sentence by sentence. */
public final class EdgesOfDoneTest {
    private static final int NONE = Busy.NONE, MISSING = Busy.MISSING, DENIED = Busy.DENIED, ALARM = Busy.ALARM;
    private static final int JAMMED = Busy.JAMMED, BROKEN = Busy.BROKEN, LOW = Busy.LOW, HIGH = Busy.HIGH;

    public static void main(String[] args) {
        p6VaultOrNIsBad();
        p6NAtBothEnds();
        p6SumAndNAtTheLimit();
        p6Missing();
        p6Jammed();
        p7VaultOrNIsBad();
        p7NAtBothEnds();
        p7SumBelowN();
        p7Missing();
        p7Jammed();
        p8VaultsOrNAreBad();
        p8NAtBothEnds();
        p8SumOfABelowN();
        p8SumOfBAndNAtTheLimit();
        p8AlarmAheadOfDenied();
        p8WithinOneVault();
        p8MissingAtEachHand();
        p8JammedAtEachHand();
        p9VaultOrPartsAreBad();
        p9PartsAtBothEnds();
        p9CutOff();
        p9PartsZeroIsBroken();
        p9Missing();
        p9Jammed();
        p10VaultIsBad();
        p10BothHands();
        p10Missing();
        p10Jammed();
        p11KeyIsBad();
        p11WearBehindTheTurn();
        p11OneOfTheTeethIsEnough();
        Due.end();
    }

    /** The busy desk with KEY 2, which has 1 of the TEETH, at both HANDS of VAULT 2. */
    private static VaultHands jamming() {
        VaultHands x = Busy.desk();
        x.hang(2, 1, 2);
        return x;
    }

    private static Told jammed() {
        return Busy.told().rights(1, 0, 2).wears(4, 8, 1).more(102, 702, 602).alarms(2);
    }

    /** The busy desk with VAULT 2 BARE at the left HAND, and KEY 1 at the right one. */
    private static VaultHands leftBare() {
        VaultHands x = Busy.desk();
        x.hang(2, 0, NONE);
        x.hang(2, 1, 1);
        return x;
    }

    /** The right HAND is not come to: KEY 1 has its WEAR, and there is no ENTRY of it. */
    private static Told missingAtLeft() {
        return Busy.told().lefts(0, 1, NONE).rights(1, 0, 1).more(10);
    }

    private static Told missingAtRight() {
        return Busy.told().wears(4, 8, 1).more(102, 11, 302);
    }

    /** VAULTS 0 and 1 with LIMIT 1000000, the first one with that SUM, KEYS 0 .. 3 at their HANDS. */
    private static VaultHands rich() {
        VaultHands x = new VaultHands();
        Due.vault(x, 1000000, 1000000);
        Due.vault(x, 1000000, 0);
        return x;
    }

    private static Told toldOfRich(int sum0, int sum1, int... wears) {
        return new Told().sums(sum0, sum1).lefts(0, 2).rights(1, 3).wears(wears);
    }

    private static void p6VaultOrNIsBad() {
        for (int v : Busy.NO_VAULTS) {
            Busy.isBad("6: put(" + v + ", 0)", x -> x.put(v, 0));
        }
        for (int n : Busy.NO_AMOUNTS) {
            Busy.isBad("6: put(0, " + n + ")", x -> x.put(0, n));
            Busy.isBad("6: put(2, " + n + "), BAD ahead of MISSING", x -> x.put(2, n));
        }
    }

    private static void p6NAtBothEnds() {
        Busy.answers("6: put(0, 0)", x -> x.put(0, 0), 40, Busy.told().wears(5, 10, 0).more(100, 101, 201, 200));
        Busy.answers("6: put(0, 1000000)", x -> x.put(0, 1000000), DENIED,
            Busy.told().wears(5, 10, 0).more(100, 101, 301, 300));
        VaultHands x = rich();
        Due.is("6: put(1, 1000000)", x.put(1, 1000000), 1000000);
        toldOfRich(1000000, 1000000, 1, 1, 1, 1).book(102, 103, 203, 202).look("6: put(1, 1000000)", x);
        Due.is("6: the most together", x.put(1, 1000000), DENIED);
        toldOfRich(1000000, 1000000, 1, 1, 2, 2).book(102, 103, 203, 202, 102, 103, 303, 302).look("6: the most", x);
    }

    private static void p6SumAndNAtTheLimit() {
        Told done = Busy.told().wears(5, 10, 0).more(100, 101, 201, 200);
        Busy.answers("6: below the limit", x -> x.put(0, 59), 99, done.sums(99, 20, 0));
        Busy.answers("6: at the limit", x -> x.put(0, 60), 100, done.sums(100, 20, 0));
        Busy.answers("6: above the limit", x -> x.put(0, 61), DENIED,
            Busy.told().wears(5, 10, 0).more(100, 101, 301, 300));
        VaultHands x = new VaultHands();
        Due.vault(x, 0, 0);
        Due.is("6: 0 at limit 0", x.put(0, 0), 0);
        Due.is("6: 1 at limit 0", x.put(0, 1), DENIED);
        new Told().sums(0).lefts(0).rights(1).wears(2, 2).book(100, 101, 201, 200, 100, 101, 301, 300).look("6: limit 0", x);
    }

    private static void p6Missing() {
        Busy.answers("6: right is bare", x -> x.put(2, 1), MISSING, missingAtRight());
        Busy.answers("6: right is bare, n 0", x -> x.put(2, 0), MISSING, missingAtRight());
        VaultHands x = leftBare();
        Due.is("6: left is bare", x.put(2, 1), MISSING);
        missingAtLeft().look("6: left is bare", x);
        VaultHands y = Busy.desk();
        y.hang(1, 1, NONE);
        Due.is("6: MISSING ahead of DENIED", y.put(1, 31), MISSING);
        Busy.told().rights(1, NONE, NONE).wears(4, 10, 0).more(101, 11, 301).look("6: MISSING ahead of DENIED", y);
    }

    private static void p6Jammed() {
        VaultHands x = jamming();
        Due.is("6: jammed", x.put(2, 1), JAMMED);
        jammed().look("6: jammed", x);
        VaultHands y = Busy.desk();
        y.hang(1, 0, 2);
        y.hang(1, 1, 2);
        Due.is("6: JAMMED ahead of DENIED", y.put(1, 31), JAMMED);
        Busy.told().lefts(0, 2, 2).rights(1, 2, NONE).wears(4, 8, 1).more(102, 702, 602).alarms(2).look("6: JAMMED", y);
        VaultHands z = Busy.desk();
        z.hang(0, 1, 0);
        Due.is("6: two teeth are enough", z.put(0, 60), 100);
        Busy.told().sums(100, 20, 0).rights(0, 0, NONE).wears(6, 8, 0).more(100, 100, 200, 200).look("6: two teeth", z);
    }

    private static void p7VaultOrNIsBad() {
        for (int v : Busy.NO_VAULTS) {
            Busy.isBad("7: take(" + v + ", 0)", x -> x.take(v, 0));
        }
        for (int n : Busy.NO_AMOUNTS) {
            Busy.isBad("7: take(0, " + n + ")", x -> x.take(0, n));
            Busy.isBad("7: take(2, " + n + "), BAD ahead of MISSING", x -> x.take(2, n));
        }
    }

    private static void p7NAtBothEnds() {
        Busy.answers("7: take(0, 0)", x -> x.take(0, 0), 40, Busy.told().wears(5, 10, 0).more(100, 101, 201, 200));
        Busy.answers("7: take(0, 1000000)", x -> x.take(0, 1000000), ALARM,
            Busy.told().wears(5, 10, 0).more(100, 101, 601, 600).alarms(2));
        VaultHands x = rich();
        Due.is("7: take(0, 1000000)", x.take(0, 1000000), 0);
        toldOfRich(0, 0, 2, 2, 0, 0).book(100, 101, 201, 200).look("7: take(0, 1000000)", x);
        Due.is("7: 0 of 0", x.take(0, 0), 0);
        Due.is("7: the most of 0", x.take(0, 1000000), ALARM);
        toldOfRich(0, 0, 4, 4, 0, 0).book(100, 101, 201, 200, 100, 101, 201, 200, 100, 101, 601, 600).alarms(1)
            .look("7: the most of 0", x);
    }

    private static void p7SumBelowN() {
        Told done = Busy.told().wears(5, 10, 0).more(100, 101, 201, 200);
        Busy.answers("7: one less than the sum", x -> x.take(0, 39), 1, done.sums(1, 20, 0));
        Busy.answers("7: the sum", x -> x.take(0, 40), 0, done.sums(0, 20, 0));
        Busy.answers("7: one more than the sum", x -> x.take(0, 41), ALARM,
            Busy.told().wears(5, 10, 0).more(100, 101, 601, 600).alarms(2));
    }

    private static void p7Missing() {
        Busy.answers("7: right is bare, MISSING ahead of ALARM", x -> x.take(2, 1), MISSING, missingAtRight());
        Busy.answers("7: right is bare, n 0", x -> x.take(2, 0), MISSING, missingAtRight());
        VaultHands x = leftBare();
        Due.is("7: left is bare", x.take(2, 1), MISSING);
        missingAtLeft().look("7: left is bare", x);
    }

    private static void p7Jammed() {
        VaultHands x = jamming();
        Due.is("7: jammed, one alarm alone", x.take(2, 1), JAMMED);
        jammed().look("7: jammed", x);
        VaultHands y = Busy.desk();
        y.hang(0, 1, 0);
        Due.is("7: two teeth are enough", y.take(0, 40), 0);
        Busy.told().sums(0, 20, 0).rights(0, 0, NONE).wears(6, 8, 0).more(100, 100, 200, 200).look("7: two teeth", y);
    }

    private static void p8VaultsOrNAreBad() {
        for (int v : Busy.NO_VAULTS) {
            Busy.isBad("8: move(" + v + ", 0, 0)", x -> x.move(v, 0, 0));
            Busy.isBad("8: move(0, " + v + ", 0)", x -> x.move(0, v, 0));
            Busy.isBad("8: move(2, " + v + ", 0), BAD ahead of MISSING", x -> x.move(2, v, 0));
        }
        for (int n : Busy.NO_AMOUNTS) {
            Busy.isBad("8: move(0, 1, " + n + ")", x -> x.move(0, 1, n));
            Busy.isBad("8: move(2, 2, " + n + "), BAD ahead of MISSING", x -> x.move(2, 2, n));
        }
    }

    private static void p8NAtBothEnds() {
        Busy.answers("8: move(0, 1, 0)", x -> x.move(0, 1, 0), 40,
            Busy.told().wears(6, 12, 0).more(100, 101, 101, 100, 200, 201, 201, 200));
        VaultHands x = rich();
        Due.is("8: move(0, 1, 1000000)", x.move(0, 1, 1000000), 0);
        toldOfRich(0, 1000000, 2, 2, 1, 1).book(100, 101, 102, 103, 203, 202, 201, 200).look("8: 1000000", x);
        VaultHands y = rich();
        y.put(1, 1000000);
        y.clear();
        Due.is("8: the most together", y.move(0, 1, 1000000), DENIED);
        toldOfRich(1000000, 1000000, 2, 2, 2, 2).book(100, 101, 102, 103, 303, 302, 301, 300).look("8: the most", y);
    }

    private static void p8SumOfABelowN() {
        Told done = Busy.told().wears(6, 12, 0).more(101, 100, 100, 101, 201, 200, 200, 201);
        Busy.answers("8: one less than a's sum", x -> x.move(1, 0, 19), 1, done.sums(59, 1, 0));
        Busy.answers("8: a's sum", x -> x.move(1, 0, 20), 0, done.sums(60, 0, 0));
        Busy.answers("8: one more than a's sum", x -> x.move(1, 0, 21), ALARM,
            Busy.told().wears(6, 12, 0).more(101, 100, 100, 101, 601, 600, 600, 601).alarms(2));
    }

    private static void p8SumOfBAndNAtTheLimit() {
        Told done = Busy.told().wears(6, 12, 0).more(100, 101, 101, 100, 200, 201, 201, 200);
        Busy.answers("8: below b's limit", x -> x.move(0, 1, 29), 11, done.sums(11, 49, 0));
        Busy.answers("8: at b's limit", x -> x.move(0, 1, 30), 10, done.sums(10, 50, 0));
        Busy.answers("8: above b's limit", x -> x.move(0, 1, 31), DENIED,
            Busy.told().wears(6, 12, 0).more(100, 101, 101, 100, 300, 301, 301, 300));
    }

    private static void p8AlarmAheadOfDenied() {
        Told denied = Busy.told().wears(6, 12, 0).more(100, 101, 101, 100, 300, 301, 301, 300);
        Busy.answers("8: a's sum, above b's limit", x -> x.move(0, 1, 40), DENIED, denied);
        Told alarm = Busy.told().wears(6, 12, 0).more(100, 101, 101, 100, 600, 601, 601, 600).alarms(2);
        Busy.answers("8: above both", x -> x.move(0, 1, 41), ALARM, alarm);
        Busy.answers("8: above both by the most", x -> x.move(0, 1, 1000000), ALARM, alarm);
    }

    private static void p8WithinOneVault() {
        Told done = Busy.told().wears(6, 12, 0).more(100, 101, 100, 101, 201, 200, 201, 200);
        Busy.answers("8: all of it to itself", x -> x.move(0, 0, 40), 40, done);
        Busy.answers("8: more than it has to itself", x -> x.move(0, 0, 41), ALARM,
            Busy.told().wears(6, 12, 0).more(100, 101, 100, 101, 601, 600, 601, 600).alarms(2));
        VaultHands x = Busy.desk();
        x.put(0, 20);
        Due.is("8: to itself at the limit", x.move(0, 0, 40), 60);
        Due.is("8: to itself above the limit", x.move(0, 0, 41), DENIED);
        Busy.told().sums(60, 20, 0).wears(9, 18, 0).more(100, 101, 201, 200)
            .more(100, 101, 100, 101, 201, 200, 201, 200).more(100, 101, 100, 101, 301, 300, 301, 300)
            .look("8: to itself", x);
    }

    private static void p8MissingAtEachHand() {
        Busy.answers("8: a's right is bare", x -> x.move(2, 0, 1), MISSING, missingAtRight());
        VaultHands x = leftBare();
        Due.is("8: a's left is bare", x.move(2, 0, 1), MISSING);
        missingAtLeft().look("8: a's left is bare", x);
        Busy.answers("8: b's right is bare, ahead of ALARM", x2 -> x2.move(0, 2, 41), MISSING,
            Busy.told().wears(5, 10, 1).more(100, 101, 102, 11, 302, 301, 300));
        VaultHands y = leftBare();
        Due.is("8: b's left is bare", y.move(0, 2, 1), MISSING);
        Busy.told().lefts(0, 1, NONE).rights(1, 0, 1).wears(5, 10, 0).more(100, 101, 10, 301, 300)
            .look("8: b's left is bare", y);
    }

    /** KEY 0 has 2 of the TEETH: the third time it is TURNED in one call it JAMS. */
    private static void p8JammedAtEachHand() {
        VaultHands x = jamming();
        Due.is("8: jammed at a's right", x.move(2, 0, 1), JAMMED);
        jammed().look("8: jammed at a's right", x);
        VaultHands y = Busy.desk();
        y.hang(0, 1, 0);
        y.hang(1, 0, 0);
        Due.is("8: jammed at b's left", y.move(0, 1, 41), JAMMED);
        Busy.told().lefts(0, 0, 2).rights(0, 0, NONE).wears(6, 8, 0).more(100, 100, 700, 600, 600).alarms(2)
            .look("8: jammed at b's left", y);
        VaultHands z = Busy.desk();
        z.hang(1, 0, 0);
        Due.is("8: jammed at b's right", z.move(0, 1, 31), JAMMED);
        Busy.told().lefts(0, 0, 2).wears(6, 10, 0).more(100, 101, 100, 700, 600, 601, 600).alarms(2)
            .look("8: jammed at b's right", z);
    }

    private static void p9VaultOrPartsAreBad() {
        for (int v : Busy.NO_VAULTS) {
            Busy.isBad("9: split(" + v + ", 1)", x -> x.split(v, 1));
            Busy.isBad("9: split(" + v + ", 0), BAD ahead of BROKEN", x -> x.split(v, 0));
        }
        for (int parts : new int[] {LOW, LOW + 1, -1000, -2, -1, 1001, 1002, HIGH - 1, HIGH}) {
            Busy.isBad("9: split(0, " + parts + ")", x -> x.split(0, parts));
            Busy.isBad("9: split(2, " + parts + "), BAD ahead of MISSING", x -> x.split(2, parts));
        }
    }

    private static void p9PartsAtBothEnds() {
        Told done = Busy.told().wears(5, 10, 0).more(100, 101, 201, 200);
        Busy.answers("9: split(0, 1)", x -> x.split(0, 1), 40, done);
        Busy.answers("9: split(0, 999)", x -> x.split(0, 999), 0, done);
        Busy.answers("9: split(0, 1000)", x -> x.split(0, 1000), 0, done);
        VaultHands x = rich();
        Due.is("9: the most by 1", x.split(0, 1), 1000000);
        Due.is("9: the most by 1000", x.split(0, 1000), 1000);
        toldOfRich(1000000, 0, 3, 3, 0, 0).book(100, 101, 201, 200, 100, 101, 201, 200).look("9: the most", x);
    }

    private static void p9CutOff() {
        Told done = Busy.told().wears(5, 10, 0).more(100, 101, 201, 200);
        Busy.answers("9: 40 by 39", x -> x.split(0, 39), 1, done);
        Busy.answers("9: 40 by 40", x -> x.split(0, 40), 1, done);
        Busy.answers("9: 40 by 41", x -> x.split(0, 41), 0, done);
        Busy.answers("9: 40 by 3", x -> x.split(0, 3), 13, done);
        VaultHands x = rich();
        x.take(0, 1);
        Due.is("9: 999999 by 1000", x.split(0, 1000), 999);
        Due.is("9: 0 by 1", x.split(1, 1), 0);
    }

    private static void p9PartsZeroIsBroken() {
        Busy.answers("9: split(0, 0)", x -> x.split(0, 0), BROKEN,
            Busy.told().wears(5, 10, 0).more(100, 101, 601, 600).alarms(2));
        VaultHands x = rich();
        Due.is("9: 0 by 0", x.split(1, 0), BROKEN);
        toldOfRich(1000000, 0, 1, 1, 1, 1).book(102, 103, 603, 602).alarms(1).look("9: 0 by 0", x);
    }

    private static void p9Missing() {
        Busy.answers("9: right is bare", x -> x.split(2, 1), MISSING, missingAtRight());
        Busy.answers("9: right is bare, MISSING ahead of BROKEN", x -> x.split(2, 0), MISSING, missingAtRight());
        VaultHands x = leftBare();
        Due.is("9: left is bare, MISSING ahead of BROKEN", x.split(2, 0), MISSING);
        missingAtLeft().look("9: left is bare", x);
    }

    private static void p9Jammed() {
        VaultHands x = jamming();
        Due.is("9: jammed, ahead of BROKEN, one alarm alone", x.split(2, 0), JAMMED);
        jammed().look("9: jammed", x);
        VaultHands y = Busy.desk();
        y.hang(0, 1, 0);
        Due.is("9: two teeth are enough", y.split(0, 2), 20);
        Busy.told().rights(0, 0, NONE).wears(6, 8, 0).more(100, 100, 200, 200).look("9: two teeth", y);
    }

    private static void p10VaultIsBad() {
        for (int v : Busy.NO_VAULTS) {
            Busy.isBad("10: swap(" + v + ")", x -> x.swap(v));
        }
    }

    private static void p10BothHands() {
        Busy.answers("10: the first vault", x -> x.swap(0), 1,
            Busy.told().lefts(1, 1, 2).rights(0, 0, NONE).wears(5, 10, 0).more(100, 101, 201, 200));
        VaultHands x = Busy.desk();
        x.hang(2, 1, 0);
        Due.is("10: the last vault", x.swap(2), 0);
        Busy.told().lefts(0, 1, 0).rights(1, 0, 2).wears(5, 8, 1).more(102, 100, 200, 202).look("10: the last vault", x);
        VaultHands y = Busy.desk();
        y.hang(0, 1, 0);
        Due.is("10: the same one at both, two teeth", y.swap(0), 0);
        Busy.told().rights(0, 0, NONE).wears(6, 8, 0).more(100, 100, 200, 200).look("10: the same one at both", y);
    }

    private static void p10Missing() {
        Busy.answers("10: right is bare, nothing is swapped", x -> x.swap(2), MISSING, missingAtRight());
        VaultHands x = leftBare();
        Due.is("10: left is bare, nothing is swapped", x.swap(2), MISSING);
        missingAtLeft().look("10: left is bare", x);
        VaultHands y = Busy.desk();
        y.hang(2, 0, NONE);
        Due.is("10: both are bare", y.swap(2), MISSING);
        Busy.told().lefts(0, 1, NONE).more(10).look("10: both are bare", y);
    }

    private static void p10Jammed() {
        VaultHands x = jamming();
        Due.is("10: jammed", x.swap(2), JAMMED);
        jammed().look("10: jammed", x);
    }

    private static void p11KeyIsBad() {
        for (int k : Busy.NO_KEYS) {
            Busy.isBad("11: polish(" + k + ")", x -> x.polish(k));
        }
        Busy.isBad("11: polish(NONE)", x -> x.polish(NONE));
        VaultHands x = new VaultHands();
        for (int k = 0; k < 40; k++) {
            x.key(1, true);
        }
        Due.is("11: key 40 of 40", x.polish(40), Busy.BAD);
        new Told().wears(new int[40]).look("11: key 40 of 40", x);
        Due.is("11: the last one of 40", x.polish(39), 2);
        new Told().wears(new int[40]).book(139, 239).look("11: the last one of 40", x);
    }

    private static void p11WearBehindTheTurn() {
        Busy.answers("11: a worn one", x -> x.polish(0), 5, Busy.told().wears(0, 8, 0).more(100, 200));
        Busy.answers("11: a worn master", x -> x.polish(1), 10, Busy.told().wears(4, 0, 0).more(101, 201));
        Busy.answers("11: one that was never turned", x -> x.polish(2), 1, Busy.told().more(102, 202));
    }

    private static void p11OneOfTheTeethIsEnough() {
        VaultHands x = Busy.desk();
        Due.is("11: once", x.polish(2), 1);
        Due.is("11: and once more", x.polish(2), 1);
        Busy.told().more(102, 202, 102, 202).look("11: one of the teeth", x);
    }
}
