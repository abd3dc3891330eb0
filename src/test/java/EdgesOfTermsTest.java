import java.util.Arrays;
import java.util.List;
import java.util.function.ToIntFunction;

/** The boundary cases of "What it is" and "Terms", sentence by sentence. */
public final class EdgesOfTermsTest {
    private static final int NONE = Busy.NONE, MISSING = Busy.MISSING, DENIED = Busy.DENIED, ALARM = Busy.ALARM;
    private static final int JAMMED = Busy.JAMMED, BROKEN = Busy.BROKEN, HIGH = Busy.HIGH;

    /** Each call that TURNS BOTH of VAULT 0, with what would be done, DENIED, an ALARM or BROKEN. */
    private static final List<ToIntFunction<VaultHands>> CALLS_OF_BOTH = List.of(
        x -> x.put(0, 1), x -> x.put(0, 1000000), x -> x.take(0, 1), x -> x.take(0, 1000000),
        x -> x.move(0, 1, 1), x -> x.move(0, 0, 1), x -> x.split(0, 1), x -> x.split(0, 0), x -> x.swap(0));

    public static void main(String[] args) {
        theFiveHundredAndTwelfthCall();
        theMostEntries();
        heldAsOftenAsItHasTeeth();
        aJamTakesNoWear();
        teethOfOneKeyInOnePlace();
        notHeldBetweenTwoCalls();
        numbersOfTheLastKey();
        atAnyNumberOfHands();
        turnedLastLetGoFirst();
        nothingBehindAnAlarmIsDone();
        bareHandsInTheBook();
        theRightOneIsNotComeTo();
        theRightOneIsBareBehindALeftOne();
        aJamOfTheLeftOneAheadOfABareRightOne();
        Due.end();
    }

    private static void theFiveHundredAndTwelfthCall() {
        VaultHands x = new VaultHands();
        x.key(1, true);
        for (int call = 2; call <= 511; call++) {
            Due.is("512: call " + call, x.polish(0), 2);
        }
        Due.is("512: the last call", x.entries(), 2 * 510);
        VaultHands y = new VaultHands();
        Due.vault(y, 600, 0);
        for (int call = 7; call <= 512; call++) {
            Due.is("512: call " + call, y.put(0, 1), call - 6);
        }
    }

    /** No calls write more than runs of 32 moves do. */
    private static void theMostEntries() {
        VaultHands x = new VaultHands();
        Due.vault(x, 1, 0);
        Due.vault(x, 1, 0);
        for (int run = 1; run <= 15; run++) {
            for (int i = 0; i < 32; i++) {
                x.order(2, 0, 1, 0);
            }
            Due.is("512: run " + run, x.run(), 32);
        }
        Due.is("512: the last that is kept", x.entry(399), 200);
        Due.is("512: all are counted", x.clear(), 15 * 32 * 8);
    }

    private static int[] all(int many, int number) {
        int[] row = new int[many];
        Arrays.fill(row, number);
        return row;
    }

    private static VaultHands oneKeyInACircle(int teeth, boolean master) {
        VaultHands x = new VaultHands();
        x.key(teeth, master);
        x.vault(0);
        x.hang(0, 0, 0);
        x.link(0, 0);
        return x;
    }

    private static void heldAsOftenAsItHasTeeth() {
        for (int teeth = 1; teeth <= 9; teeth++) {
            Told due = new Told().sums(0).lefts(0).rights(NONE).wears(teeth);
            VaultHands x = oneKeyInACircle(teeth, false);
            Due.is("TEETH: as often as " + teeth, x.walk(0, teeth, 0), 0);
            due.book(all(teeth, 100)).more(all(teeth, 200)).look("TEETH: as often as " + teeth, x);
            VaultHands y = oneKeyInACircle(teeth, false);
            Due.is("TEETH: once more than " + teeth, y.walk(0, teeth + 1, 0), JAMMED);
            due.book(all(teeth, 100)).more(700).more(all(teeth, 600)).alarms(1).look("TEETH: once more than " + teeth, y);
        }
    }

    private static void aJamTakesNoWear() {
        for (int teeth = 1; teeth <= 9; teeth++) {
            VaultHands x = oneKeyInACircle(teeth, true);
            Due.is("JAM: of a master", x.walk(0, 60, 0), JAMMED);
            Due.is("JAM: wear of a master", x.wear(0), 2 * teeth);
            Due.is("JAM: entries", x.entries(), 2 * teeth + 1);
            Due.is("JAM: one alarm", x.alarms(), 1);
        }
    }

    /** BOTH want 2 of the TEETH of a KEY at both HANDS; a move within that VAULT wants 4. */
    private static void teethOfOneKeyInOnePlace() {
        for (int teeth = 1; teeth <= 5; teeth++) {
            VaultHands x = new VaultHands();
            x.key(teeth, false);
            x.vault(5);
            x.hang(0, 0, 0);
            x.hang(0, 1, 0);
            Due.is("TEETH: put, " + teeth, x.put(0, 5), teeth < 2 ? JAMMED : 5);
            Due.is("TEETH: move, " + teeth, x.move(0, 0, 0), teeth < 4 ? JAMMED : 5);
            int turns = Math.min(teeth, 2) + Math.min(teeth, 4);
            Due.is("TEETH: wear, " + teeth, x.wear(0), turns);
            int jams = (teeth < 2 ? 1 : 0) + (teeth < 4 ? 1 : 0);
            Due.is("TEETH: alarms, " + teeth, x.alarms(), jams);
            Due.is("TEETH: entries, " + teeth, x.entries(), 2 * turns + jams);
        }
    }

    /** VAULTS 0 and 1, each with two KEYS of 1 of the TEETH; SUMS 5 and 0, LIMITS 9. */
    private static VaultHands tight() {
        VaultHands x = new VaultHands();
        for (int v = 0; v < 2; v++) {
            x.vault(9);
            x.hang(v, 0, x.key(1, false));
            x.hang(v, 1, x.key(1, false));
        }
        x.put(0, 5);
        x.clear();
        return x;
    }

    /** With 1 of the TEETH a KEY that was not let go would JAM in the next call. */
    private static void isLetGo(String what, ToIntFunction<VaultHands> call, int answer) {
        VaultHands x = tight();
        Due.is("HELD: " + what, call.applyAsInt(x), answer);
        x.hang(0, 0, 0);
        x.hang(0, 1, 1);
        x.hang(1, 0, 2);
        x.hang(1, 1, 3);
        x.clear();
        Due.is("HELD: not behind " + what, x.move(0, 1, 0), x.sum(0));
        Due.book("HELD: not behind " + what, x, 100, 101, 102, 103, 203, 202, 201, 200);
    }

    private static void notHeldBetweenTwoCalls() {
        isLetGo("put", x -> x.put(0, 4), 9);
        isLetGo("put, DENIED", x -> x.put(0, 5), DENIED);
        isLetGo("put, MISSING", x -> x.hang(0, 1, NONE) == 1 ? x.put(0, 1) : 0, MISSING);
        isLetGo("put, JAMMED", x -> x.hang(0, 1, 0) == 1 ? x.put(0, 1) : 0, JAMMED);
        isLetGo("take", x -> x.take(0, 5), 0);
        isLetGo("take, ALARM", x -> x.take(0, 6), ALARM);
        isLetGo("move", x -> x.move(0, 1, 5), 0);
        isLetGo("move, DENIED", x -> x.move(0, 0, 5) == JAMMED && x.put(1, 5) == 5 ? x.move(0, 1, 5) : 0, DENIED);
        isLetGo("move, ALARM", x -> x.move(1, 0, 1), ALARM);
        isLetGo("move, MISSING", x -> x.hang(1, 1, NONE) == 3 ? x.move(0, 1, 1) : 0, MISSING);
        isLetGo("move, JAMMED", x -> x.move(0, 0, 1), JAMMED);
        isLetGo("split", x -> x.split(0, 2), 2);
        isLetGo("split, BROKEN", x -> x.split(0, 0), BROKEN);
        isLetGo("swap", x -> x.swap(0), 1);
        isLetGo("polish", x -> x.polish(0), 2);
        isLetGo("rounds, a stop", x -> x.rounds(0, 2, 1), 1);
        isLetGo("rounds, a skip", x -> x.rounds(0, 2, 2), 1);
        isLetGo("sweep, a stop", x -> x.sweep(0, 2, 5), 5);
        isLetGo("sweep, the end", x -> x.sweep(0, 2, 6), 5);
        isLetGo("sweep, a skip", x -> x.hang(0, 1, NONE) == 1 ? x.sweep(0, 1, 5) : NONE, 0);
        isLetGo("sweep, JAMMED", x -> x.hang(1, 1, 2) == 3 ? x.sweep(0, 2, 6) : 0, JAMMED);
        isLetGo("walk", x -> x.walk(0, 60, 5), 5);
        isLetGo("walk, ALARM", x -> x.walk(0, 60, 4), ALARM);
        isLetGo("walk, JAMMED", x -> x.link(0, 0) == NONE ? x.walk(0, 60, HIGH) : 0, JAMMED);
        isLetGo("walk, bare", x -> x.link(0, 1) == NONE && x.hang(1, 0, NONE) == 2 ? x.walk(0, 60, 5) : 0, 5);
        isLetGo("run", x -> x.order(1, 0, 0, 5) == 1 && x.order(1, 0, 0, 1) == 2 ? x.run() : 0, 1);
    }

    /** Each kind of ENTRY with the largest number that a KEY can have. */
    private static void numbersOfTheLastKey() {
        VaultHands x = new VaultHands();
        for (int k = 0; k < 40; k++) {
            x.key(k == 38 ? 1 : 2, false);
        }
        x.vault(1);
        x.hang(0, 0, 39);
        x.hang(0, 1, 39);
        x.put(0, 1);
        Due.book("39: at the end", x, 139, 139, 239, 239);
        x.put(0, 1);
        Due.book("39: by an answer", x, 139, 139, 339, 339);
        x.rounds(0, 1, 1);
        Due.book("39: by a stop", x, 139, 439);
        x.rounds(0, 1, 1);
        Due.book("39: by a skip", x, 139, 539);
        x.take(0, 1);
        Due.book("39: by an alarm", x, 139, 139, 639, 639);
        x.move(0, 0, 0);
        Due.book("39: a jam", x, 139, 139, 739, 639, 639);
        x.hang(0, 0, 0);
        x.hang(0, 1, 38);
        x.move(0, 0, 0);
        Due.book("0 and 38: a jam", x, 100, 138, 100, 738, 600, 638, 600);
    }

    private static void atAnyNumberOfHands() {
        VaultHands x = new VaultHands();
        x.key(9, false);
        for (int v = 0; v < 12; v++) {
            x.vault(1);
            x.hang(v, 0, 0);
            x.hang(v, 1, 0);
        }
        new Told().sums(new int[12]).lefts(new int[12]).rights(new int[12]).wears(0).look("24 hands", x);
        for (int v = 0; v < 12; v++) {
            Due.is("24 hands: put", x.put(v, 1), 1);
        }
        Due.is("24 hands: none at one of them", x.hang(0, 0, NONE), 0);
        int[] lefts = new int[12];
        lefts[0] = NONE;
        int[] book = new int[48];
        for (int i = 0; i < 48; i++) {
            book[i] = i % 4 < 2 ? 100 : 200;
        }
        new Told().sums(all(12, 1)).lefts(lefts).rights(new int[12]).wears(24).book(book).look("24 hands: all others", x);
    }

    private static void turnedLastLetGoFirst() {
        VaultHands x = tight();
        x.move(0, 1, 1);
        Due.book("LET GO: at the end", x, 100, 101, 102, 103, 203, 202, 201, 200);
        x.put(1, 8);
        x.clear();
        x.move(0, 1, 1);
        Due.book("LET GO: by an answer, DENIED", x, 100, 101, 102, 103, 303, 302, 301, 300);
        x.move(0, 1, 5);
        Due.book("LET GO: by an alarm", x, 100, 101, 102, 103, 603, 602, 601, 600);
        x.sweep(0, 2, 1);
        Due.book("LET GO: by a stop", x, 100, 101, 401, 400);
        x.hang(1, 1, 1);
        x.move(0, 1, 1);
        Due.book("LET GO: by a jam", x, 100, 101, 102, 701, 602, 601, 600);
        x.hang(1, 1, NONE);
        x.move(0, 1, 1);
        Due.book("LET GO: by an answer, MISSING", x, 100, 101, 102, 11, 302, 301, 300);
        x.sweep(1, 1, 1);
        Due.book("LET GO: by a skip", x, 102, 11, 502);
        x.link(0, 1);
        x.link(1, NONE);
        x.walk(0, 60, 100);
        Due.book("LET GO: all of a walk", x, 100, 102, 202, 200);
    }

    private static void nothingBehindAnAlarmIsDone() {
        Told both = new Told().sums(5, 0).lefts(0, 2).rights(1, 3).alarms(1);
        VaultHands x = tight();
        Due.is("ALARM: take", x.take(0, 6), ALARM);
        both.wears(2, 2, 0, 0).book(100, 101, 601, 600).look("ALARM: take", x);
        VaultHands y = tight();
        Due.is("ALARM: move", y.move(0, 1, 6), ALARM);
        both.wears(2, 2, 1, 1).book(100, 101, 102, 103, 603, 602, 601, 600).look("ALARM: move", y);
        VaultHands z = tight();
        z.hang(0, 1, 0);
        Due.is("ALARM: swap", z.swap(0), JAMMED);
        both.rights(0, 3).wears(2, 1, 0, 0).book(100, 700, 600).look("ALARM: swap", z);
        VaultHands w = tight();
        w.link(0, 1);
        Due.is("ALARM: walk", w.walk(0, 2, 4), ALARM);
        both.rights(1, 3).wears(2, 1, 0, 0).book(100, 600).look("ALARM: walk", w);
    }

    private static void bareHandsInTheBook() {
        VaultHands x = new VaultHands();
        x.vault(1);
        x.key(1, false);
        Due.is("BARE: both", x.put(0, 0), MISSING);
        Due.book("BARE: both", x, 10);
        x.hang(0, 0, 0);
        Due.is("BARE: right", x.put(0, 0), MISSING);
        Due.book("BARE: right", x, 100, 11, 300);
        x.hang(0, 0, NONE);
        x.hang(0, 1, 0);
        Due.is("BARE: left", x.put(0, 0), MISSING);
        Due.book("BARE: left", x, 10);
        Due.is("BARE: no alarm", x.alarms(), 0);
        Due.is("BARE: the wear", x.wear(0), 1);
    }

    private static void theRightOneIsNotComeTo() {
        for (ToIntFunction<VaultHands> call : CALLS_OF_BOTH) {
            VaultHands x = tight();
            x.hang(0, 0, NONE);
            String what = "BOTH: left is bare, call " + CALLS_OF_BOTH.indexOf(call);
            Due.is(what, call.applyAsInt(x), MISSING);
            new Told().sums(5, 0).lefts(NONE, 2).rights(1, 3).wears(1, 1, 0, 0).book(10).look(what, x);
        }
    }

    private static void theRightOneIsBareBehindALeftOne() {
        for (ToIntFunction<VaultHands> call : CALLS_OF_BOTH) {
            VaultHands x = tight();
            x.hang(0, 1, NONE);
            String what = "BOTH: right is bare, call " + CALLS_OF_BOTH.indexOf(call);
            Due.is(what, call.applyAsInt(x), MISSING);
            new Told().sums(5, 0).lefts(0, 2).rights(NONE, 3).wears(2, 1, 0, 0).book(100, 11, 300).look(what, x);
        }
    }

    /** The left HAND of b JAMS; its right one, which is BARE, is not come to. */
    private static void aJamOfTheLeftOneAheadOfABareRightOne() {
        VaultHands x = tight();
        x.hang(1, 0, 0);
        x.hang(1, 1, NONE);
        Due.is("JAM ahead of BARE", x.move(0, 1, 1), JAMMED);
        new Told().sums(5, 0).lefts(0, 0).rights(1, NONE).wears(2, 2, 0, 0).book(100, 101, 700, 601, 600).alarms(1)
            .look("JAM ahead of BARE", x);
    }
}
