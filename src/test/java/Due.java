/** What the tests share: it prints each answer that is not the one that is due, and counts them. */
final class Due {
    private static int wrong = 0;

    private Due() {
    }

    static void is(String what, int got, int due) {
        if (got != due) {
            wrong++;
            System.out.println(what + " answered " + got + ", due is " + due);
        }
    }

    /** For what is no number: it prints what is so otherwise. */
    static void holds(String otherwise, boolean held) {
        if (!held) {
            wrong++;
            System.out.println(otherwise);
        }
    }

    /** The whole BOOK since the latest clear(); it is cleared then. */
    static void book(String what, VaultHands x, int... due) {
        is(what + ": entries()", x.entries(), due.length);
        for (int i = 0; i < due.length; i++) {
            is(what + ": entry(" + i + ")", x.entry(i), due[i]);
        }
        is(what + ": entry(" + due.length + ")", x.entry(due.length), VaultHands.NONE);
        is(what + ": clear()", x.clear(), due.length);
    }

    /** A VAULT with new KEYS at both HANDS, and a SUM. */
    static int vault(VaultHands x, int limit, int sum) {
        int left = x.key(9, false);
        int right = x.key(9, false);
        int v = x.vault(limit);
        x.hang(v, 0, left);
        x.hang(v, 1, right);
        if (sum > 0) {
            is("put for a start", x.put(v, sum), sum);
        }
        x.clear();
        return v;
    }

    static void end() {
        System.out.println(wrong == 0 ? "all answers are as due" : wrong + " answers are not as due");
        if (wrong != 0) {
            System.exit(1);
        }
    }
}
