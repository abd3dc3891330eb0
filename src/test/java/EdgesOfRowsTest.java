import java.util.Arrays;

/** The boundary cases of promises 12 to 14, sentence by sentence. */
public final class EdgesOfRowsTest {
    private static final int NONE = Busy.NONE, BAD = Busy.BAD, ALARM = Busy.ALARM, JAMMED = Busy.JAMMED;
    private static final int LOW = Busy.LOW, HIGH = Busy.HIGH;
    private static final int[] NO_MANY = {LOW, LOW + 1, -12, -2, -1, 0, 13, 14, HIGH - 12, HIGH - 1, HIGH};
    private static final int[][] NOT_SO_MANY = {{0, 4}, {0, 12}, {1, 3}, {1, 12}, {2, 2}, {2, 12}};
    private static final int[][] WRAPS = {{HIGH, 1}, {HIGH, 12}, {HIGH, HIGH}, {HIGH - 11, 12}, {LOW, 1}, {LOW, LOW},
        {LOW, 12}, {2, HIGH}, {1, HIGH}, {2, HIGH - 1}, {-1, 2}, {-1, 4}, {-12, 12}};

    public static void main(String[] args) {
        p12FromOrManyIsBad();
        p12NIsBad();
        p12FirstAndLastOfTheRow();
        p12TwelveOfTwelve();
        p12NAtBothEnds();
        p12SumOfZeroIsSkipped();
        p12BareIsPassed();
        p12NthIsTheStop();
        p13FromOrManyIsBad();
        p13NIsBad();
        p13FirstAndLastOfTheRow();
        p13TwelveOfTwelve();
        p13NAtBothEnds();
        p13SumAndWhatIsWanted();
        p13SumOfZeroIsNoSkip();
        p13BareIsPassed();
        p13Jammed();
        p13OverAheadOfTheJam();
        p14VaultMostOrNIsBad();
        p14MostAtBothEnds();
        p14NAtBothEnds();
        p14TotalAtN();
        p14AlarmAheadOfTheEnd();
        p14NoNext();
        p14Bare();
        p14EachAsOftenAsItWasComeTo();
        p14Jammed();
        Due.end();
    }

    /** VAULT v has the KEYS 2v and 2v + 1, with 9 TEETH, at its HANDS; THE BOOK is empty. */
    private static VaultHands row(int... sums) {
        VaultHands x = new VaultHands();
        for (int sum : sums) {
            Due.vault(x, 1000000, sum);
        }
        return x;
    }

    private static Told toldOfRow(int... sums) {
        int[] lefts = new int[sums.length];
        int[] rights = new int[sums.length];
        for (int v = 0; v < sums.length; v++) {
            lefts[v] = 2 * v;
            rights[v] = 2 * v + 1;
        }
        return new Told().sums(sums).lefts(lefts).rights(rights);
    }

    private static int[] all(int many, int number) {
        int[] row = new int[many];
        Arrays.fill(row, number);
        return row;
    }

    private static void p12FromOrManyIsBad() {
        for (int from : Busy.NO_VAULTS) {
            Busy.isBad("12: rounds(" + from + ", 1, 1)", x -> x.rounds(from, 1, 1));
        }
        for (int many : NO_MANY) {
            Busy.isBad("12: rounds(0, " + many + ", 1)", x -> x.rounds(0, many, 1));
        }
        for (int[] b : NOT_SO_MANY) {
            Busy.isBad("12: rounds(" + b[0] + ", " + b[1] + ", 1)", x -> x.rounds(b[0], b[1], 1));
        }
        for (int[] b : WRAPS) {
            Busy.isBad("12: rounds(" + b[0] + ", " + b[1] + ", 1)", x -> x.rounds(b[0], b[1], 1));
        }
    }

    private static void p12NIsBad() {
        for (int n : new int[] {LOW, LOW + 1, -12, -1, 0, 13, 14, HIGH - 1, HIGH}) {
            Busy.isBad("12: rounds(0, 3, " + n + ")", x -> x.rounds(0, 3, n));
        }
    }

    private static void p12FirstAndLastOfTheRow() {
        Busy.answers("12: rounds(0, 1, 12)", x -> x.rounds(0, 1, 12), 1,
            Busy.told().sums(39, 20, 0).wears(5, 8, 0).more(100, 200));
        Busy.answers("12: rounds(2, 1, 12)", x -> x.rounds(2, 1, 12), 0, Busy.told().wears(4, 8, 1).more(102, 502));
        Busy.answers("12: rounds(1, 2, 12)", x -> x.rounds(1, 2, 12), 1,
            Busy.told().sums(40, 19, 0).wears(4, 10, 1).more(101, 201, 102, 502));
        Busy.answers("12: rounds(0, 3, 12)", x -> x.rounds(0, 3, 12), 2,
            Busy.told().sums(39, 19, 0).wears(5, 10, 1).more(100, 200, 101, 201, 102, 502));
    }

    private static void p12TwelveOfTwelve() {
        VaultHands x = row(all(12, 1));
        int[] wears = all(24, 1);
        for (int[] b : new int[][] {{1, 12}, {11, 2}, {12, 1}, {0, 13}}) {
            Due.is("12: rounds(" + b[0] + ", " + b[1] + ", 12) of 12", x.rounds(b[0], b[1], 12), BAD);
        }
        toldOfRow(all(12, 1)).wears(wears).look("12: not so many of 12", x);
        Due.is("12: the last of 12", x.rounds(11, 1, 12), 1);
        Due.is("12: all of 12", x.rounds(0, 12, 12), 11);
        int[] book = new int[26];
        book[0] = 122;
        book[1] = 222;
        for (int v = 0; v < 12; v++) {
            wears[2 * v] = v == 11 ? 3 : 2;
            book[2 + 2 * v] = 100 + 2 * v;
            book[3 + 2 * v] = v == 11 ? 522 : 200 + 2 * v;
        }
        toldOfRow(all(12, 0)).wears(wears).book(book).look("12: all of 12", x);
    }

    private static void p12NAtBothEnds() {
        VaultHands x = row(all(12, 2));
        Due.is("12: the 12th of 12 is the stop", x.rounds(0, 12, 12), 12);
        Due.is("12: the 11th is no stop", x.entry(21), 220);
        Due.is("12: the 12th is the stop", x.entry(23), 422);
        Due.is("12: the 1st of 12 is the stop", x.rounds(0, 12, 1), 1);
        Due.is("12: the 1st is the stop", x.entry(25), 400);
        Due.is("12: nothing behind it", x.entries(), 26);
        int[] sums = all(12, 1);
        sums[0] = 0;
        for (int v = 0; v < 12; v++) {
            Due.is("12: sum " + v, x.sum(v), sums[v]);
        }
    }

    private static void p12SumOfZeroIsSkipped() {
        VaultHands x = row(0, 1, 2);
        Due.is("12: sums 0, 1, 2", x.rounds(0, 3, 12), 2);
        toldOfRow(0, 0, 1).wears(1, 0, 2, 1, 2, 1).book(100, 500, 102, 202, 104, 204).look("12: sums 0, 1, 2", x);
        Due.is("12: sums 0, 0, 1", x.rounds(0, 3, 1), 1);
        toldOfRow(0, 0, 0).wears(2, 0, 3, 1, 3, 1)
            .book(100, 500, 102, 202, 104, 204, 100, 500, 102, 502, 104, 404).look("12: sums 0, 0, 1", x);
        x.clear();
        Due.is("12: nothing but 0", x.rounds(0, 3, 1), 0);
        toldOfRow(0, 0, 0).wears(3, 0, 4, 1, 4, 1).book(100, 500, 102, 502, 104, 504).look("12: nothing but 0", x);
    }

    private static void p12BareIsPassed() {
        VaultHands x = row(3, 3, 3);
        x.hang(0, 0, NONE);
        x.hang(1, 1, NONE);
        x.hang(2, 0, NONE);
        Due.is("12: bare ones, the right hand is not looked at", x.rounds(0, 3, 2), 1);
        toldOfRow(3, 2, 3).lefts(NONE, 2, NONE).rights(1, NONE, 5).wears(1, 1, 2, 1, 1, 1).book(10, 102, 202, 10)
            .look("12: bare ones", x);
    }

    private static void p12NthIsTheStop() {
        int[][] books = {{100, 400}, {100, 200, 102, 402}, {100, 200, 102, 202, 104, 404}, {100, 200, 102, 202, 104, 204}};
        int[][] sums = {{4, 5, 5}, {4, 4, 5}, {4, 4, 4}, {4, 4, 4}};
        for (int n = 1; n <= 4; n++) {
            VaultHands x = row(5, 5, 5);
            Due.is("12: the stop of " + n, x.rounds(0, 3, n), Math.min(n, 3));
            toldOfRow(sums[n - 1]).wears(2, 1, n > 1 ? 2 : 1, 1, n > 2 ? 2 : 1, 1).book(books[n - 1])
                .look("12: the stop of " + n, x);
        }
    }

    private static void p13FromOrManyIsBad() {
        for (int from : Busy.NO_VAULTS) {
            Busy.isBad("13: sweep(" + from + ", 1, 1)", x -> x.sweep(from, 1, 1));
        }
        for (int many : NO_MANY) {
            Busy.isBad("13: sweep(0, " + many + ", 1)", x -> x.sweep(0, many, 1));
        }
        for (int[] b : NOT_SO_MANY) {
            Busy.isBad("13: sweep(" + b[0] + ", " + b[1] + ", 1)", x -> x.sweep(b[0], b[1], 1));
        }
        for (int[] b : WRAPS) {
            Busy.isBad("13: sweep(" + b[0] + ", " + b[1] + ", 1)", x -> x.sweep(b[0], b[1], 1));
        }
    }

    private static void p13NIsBad() {
        for (int n : new int[] {LOW, LOW + 1, -1000000, -1, 0, 1000001, 1000002, HIGH - 1, HIGH}) {
            Busy.isBad("13: sweep(0, 3, " + n + ")", x -> x.sweep(0, 3, n));
        }
    }

    private static void p13FirstAndLastOfTheRow() {
        Busy.answers("13: sweep(0, 1, 41)", x -> x.sweep(0, 1, 41), 40,
            Busy.told().sums(0, 20, 0).wears(5, 10, 0).more(100, 101, 201, 200));
        Busy.answers("13: sweep(2, 1, 1)", x -> x.sweep(2, 1, 1), 0, Busy.told().wears(4, 8, 1).more(102, 11, 502));
        Busy.answers("13: sweep(1, 2, 21)", x -> x.sweep(1, 2, 21), 20,
            Busy.told().sums(40, 0, 0).wears(5, 10, 1).more(101, 100, 200, 201, 102, 11, 502));
        Busy.answers("13: sweep(0, 3, 1000000)", x -> x.sweep(0, 3, 1000000), 60,
            Busy.told().sums(0, 0, 0).wears(6, 12, 1).more(100, 101, 201, 200, 101, 100, 200, 201, 102, 11, 502));
    }

    private static void p13TwelveOfTwelve() {
        VaultHands x = row(all(12, 1));
        for (int[] b : new int[][] {{1, 12}, {11, 2}, {12, 1}, {0, 13}}) {
            Due.is("13: sweep(" + b[0] + ", " + b[1] + ", 12) of 12", x.sweep(b[0], b[1], 12), BAD);
        }
        toldOfRow(all(12, 1)).wears(all(24, 1)).look("13: not so many of 12", x);
        Due.is("13: all of 12", x.sweep(0, 12, 12), 12);
        int[] book = new int[48];
        for (int v = 0; v < 12; v++) {
            int how = v == 11 ? 400 : 200;
            book[4 * v] = 100 + 2 * v;
            book[4 * v + 1] = 101 + 2 * v;
            book[4 * v + 2] = how + 1 + 2 * v;
            book[4 * v + 3] = how + 2 * v;
        }
        toldOfRow(all(12, 0)).wears(all(24, 2)).book(book).look("13: all of 12", x);
    }

    private static void p13NAtBothEnds() {
        VaultHands x = row(1000000, 1000000);
        Due.is("13: 1 is wanted", x.sweep(0, 2, 1), 1);
        toldOfRow(999999, 1000000).wears(2, 2, 1, 1).book(100, 101, 401, 400).look("13: 1 is wanted", x);
        x.clear();
        Due.is("13: 1000000 is wanted, of 999999 and more", x.sweep(0, 2, 1000000), 1000000);
        toldOfRow(0, 999999).wears(3, 3, 2, 2).book(100, 101, 201, 200, 102, 103, 403, 402).look("13: 1000000", x);
        VaultHands y = row(1000000, 1000000);
        Due.is("13: 1000000 is wanted, of 1000000", y.sweep(0, 2, 1000000), 1000000);
        toldOfRow(0, 1000000).wears(2, 2, 1, 1).book(100, 101, 401, 400).look("13: 1000000 of 1000000", y);
    }

    private static void p13SumAndWhatIsWanted() {
        VaultHands x = row(5, 5);
        Due.is("13: less is wanted than the sum", x.sweep(0, 2, 4), 4);
        toldOfRow(1, 5).wears(2, 2, 1, 1).book(100, 101, 401, 400).look("13: less than the sum", x);
        VaultHands y = row(5, 5);
        Due.is("13: the sum is wanted", y.sweep(0, 2, 5), 5);
        toldOfRow(0, 5).wears(2, 2, 1, 1).book(100, 101, 401, 400).look("13: the sum", y);
        VaultHands z = row(5, 5);
        Due.is("13: more is wanted than the sum", z.sweep(0, 2, 6), 6);
        toldOfRow(0, 4).wears(2, 2, 2, 2).book(100, 101, 201, 200, 102, 103, 403, 402).look("13: more", z);
        VaultHands last = row(5, 5);
        Due.is("13: more is wanted than there is", last.sweep(0, 2, 11), 10);
        toldOfRow(0, 0).wears(2, 2, 2, 2).book(100, 101, 201, 200, 102, 103, 203, 202).look("13: more than all", last);
    }

    private static void p13SumOfZeroIsNoSkip() {
        VaultHands x = row(0, 1);
        Due.is("13: a sum of 0", x.sweep(0, 2, 1), 1);
        toldOfRow(0, 0).wears(1, 1, 2, 2).book(100, 101, 201, 200, 102, 103, 403, 402).look("13: a sum of 0", x);
        x.clear();
        Due.is("13: nothing but 0", x.sweep(0, 2, 1), 0);
        toldOfRow(0, 0).wears(2, 2, 3, 3).book(100, 101, 201, 200, 102, 103, 203, 202).look("13: nothing but 0", x);
    }

    private static void p13BareIsPassed() {
        VaultHands x = row(3, 3, 3);
        x.hang(0, 0, NONE);
        x.hang(1, 1, NONE);
        Due.is("13: bare ones", x.sweep(0, 3, 4), 3);
        toldOfRow(3, 3, 0).lefts(NONE, 2, 4).rights(1, NONE, 5).wears(1, 1, 2, 1, 2, 2)
            .book(10, 102, 11, 502, 104, 105, 205, 204).look("13: bare ones", x);
        VaultHands y = row(3);
        y.hang(0, 0, NONE);
        y.hang(0, 1, NONE);
        Due.is("13: bare at both hands", y.sweep(0, 1, 4), 0);
        toldOfRow(3).lefts(NONE).rights(NONE).wears(1, 1).book(10).look("13: bare at both hands", y);
    }

    private static void p13Jammed() {
        VaultHands x = row(3, 3, 3);
        x.key(1, true);
        x.hang(1, 0, 6);
        x.hang(1, 1, 6);
        Due.is("13: jammed", x.sweep(0, 3, 9), JAMMED);
        toldOfRow(0, 3, 3).lefts(0, 6, 4).rights(1, 6, 5).wears(2, 2, 1, 1, 1, 1, 2)
            .book(100, 101, 201, 200, 106, 706, 606).alarms(1).look("13: jammed", x);
        VaultHands y = row(3, 3, 3);
        y.key(2, true);
        y.hang(1, 0, 6);
        y.hang(1, 1, 6);
        Due.is("13: two teeth are enough", y.sweep(0, 3, 9), 9);
        toldOfRow(0, 0, 0).lefts(0, 6, 4).rights(1, 6, 5).wears(2, 2, 1, 1, 2, 2, 4)
            .book(100, 101, 201, 200, 106, 106, 206, 206, 104, 105, 405, 404).look("13: two teeth", y);
    }

    private static void p13OverAheadOfTheJam() {
        for (int n = 3; n <= 4; n++) {
            VaultHands x = row(3, 3);
            x.key(1, false);
            x.hang(1, 0, 4);
            x.hang(1, 1, 4);
            boolean jams = n == 4;
            Due.is("13: wanted " + n, x.sweep(0, 2, n), jams ? JAMMED : 3);
            Told due = toldOfRow(0, 3).lefts(0, 4).rights(1, 4).wears(2, 2, 1, 1, jams ? 1 : 0).alarms(jams ? 1 : 0);
            if (jams) {
                due.book(100, 101, 201, 200, 104, 704, 604);
            } else {
                due.book(100, 101, 401, 400);
            }
            due.look("13: wanted " + n, x);
        }
    }

    private static void p14VaultMostOrNIsBad() {
        for (int v : Busy.NO_VAULTS) {
            Busy.isBad("14: walk(" + v + ", 1, 100)", x -> x.walk(v, 1, 100));
        }
        for (int most : new int[] {LOW, LOW + 1, -60, -1, 0, 61, 62, HIGH - 1, HIGH}) {
            Busy.isBad("14: walk(0, " + most + ", 100)", x -> x.walk(0, most, 100));
        }
        for (int n : new int[] {LOW, LOW + 1, -1000000, -2, -1}) {
            Busy.isBad("14: walk(0, 1, " + n + ")", x -> x.walk(0, 1, n));
            Busy.isBad("14: walk(2, 1, " + n + ")", x -> x.walk(2, 1, n));
        }
    }

    /** A circle of VAULTS, each with a SUM of 1000000. */
    private static VaultHands circle(int many) {
        VaultHands x = row(all(many, 1000000));
        for (int v = 0; v < many; v++) {
            x.link(v, (v + 1) % many);
        }
        return x;
    }

    /** The WEAR of the left KEYS of a circle when so many were TURNED, of the right ones behind the start. */
    private static int[] wearsOfCircle(int many, int turns) {
        int[] wears = all(2 * many, 1);
        for (int i = 0; i < turns; i++) {
            wears[2 * (i % many)]++;
        }
        return wears;
    }

    private static int[] bookOfCircle(int many, int turns, int how) {
        int[] book = new int[2 * turns];
        for (int i = 0; i < turns; i++) {
            book[i] = 100 + 2 * (i % many);
            book[2 * turns - 1 - i] = how + 2 * (i % many);
        }
        return book;
    }

    private static void p14MostAtBothEnds() {
        for (int most : new int[] {1, 2, 59, 60}) {
            VaultHands x = circle(7);
            Due.is("14: most " + most, x.walk(0, most, HIGH), most * 1000000);
            toldOfRow(all(7, 1000000)).wears(wearsOfCircle(7, most)).book(bookOfCircle(7, most, 200))
                .look("14: most " + most, x);
        }
    }

    private static void p14NAtBothEnds() {
        Busy.answers("14: n 0, nothing there", x -> x.walk(2, 1, 0), 0, Busy.told().wears(4, 8, 1).more(102, 202));
        Busy.answers("14: n 0, something there", x -> x.walk(0, 1, 0), ALARM,
            Busy.told().wears(5, 8, 0).more(100, 600).alarms(2));
        Told done = Busy.told().wears(5, 10, 1).more(100, 101, 102, 202, 201, 200);
        Busy.answers("14: n 2147483647", x -> x.walk(0, 3, HIGH), 60, done);
        Busy.answers("14: n 2147483646", x -> x.walk(0, 3, HIGH - 1), 60, done);
    }

    private static void p14TotalAtN() {
        Told done = Busy.told().wears(5, 10, 0).more(100, 101, 201, 200);
        Busy.answers("14: the total is below n", x -> x.walk(0, 2, 61), 60, done);
        Busy.answers("14: the total is n", x -> x.walk(0, 2, 60), 60, done);
        Busy.answers("14: the total is above n", x -> x.walk(0, 2, 59), ALARM,
            Busy.told().wears(5, 10, 0).more(100, 101, 601, 600).alarms(2));
        VaultHands x = circle(7);
        Due.is("14: the largest total is n", x.walk(0, 60, 60000000), 60000000);
        VaultHands y = circle(7);
        Due.is("14: the largest total is above n", y.walk(0, 60, 59999999), ALARM);
        toldOfRow(all(7, 1000000)).wears(wearsOfCircle(7, 60)).book(bookOfCircle(7, 60, 600)).alarms(1)
            .look("14: the largest total", y);
    }

    private static void p14AlarmAheadOfTheEnd() {
        Busy.answers("14: above n where most is come to", x -> x.walk(0, 1, 39), ALARM,
            Busy.told().wears(5, 8, 0).more(100, 600).alarms(2));
        VaultHands x = Busy.desk();
        x.link(1, NONE);
        Due.is("14: above n where there is no next", x.walk(0, 60, 59), ALARM);
        Busy.told().wears(5, 10, 0).more(100, 101, 601, 600).alarms(2).look("14: no next", x);
        Busy.answers("14: nothing behind the alarm is come to", y -> y.walk(0, 60, 39), ALARM,
            Busy.told().wears(5, 8, 0).more(100, 600).alarms(2));
    }

    private static void p14NoNext() {
        VaultHands x = Busy.desk();
        x.link(0, NONE);
        Due.is("14: no next at the first", x.walk(0, 60, 40), 40);
        Busy.told().wears(5, 8, 0).more(100, 200).look("14: no next at the first", x);
        Due.is("14: no next at the third", x.walk(1, 60, 60), 60);
        Busy.told().wears(6, 10, 1).more(100, 200, 101, 102, 100, 200, 202, 201).look("14: no next at the third", x);
    }

    private static void p14Bare() {
        VaultHands x = Busy.desk();
        x.hang(2, 0, NONE);
        Due.is("14: bare at the first", x.walk(2, 60, 0), 0);
        Busy.told().lefts(0, 1, NONE).more(10).look("14: bare at the first", x);
        Due.is("14: bare behind others", x.walk(0, 60, 60), 60);
        Busy.told().lefts(0, 1, NONE).wears(5, 10, 0).more(10, 100, 101, 10, 201, 200).look("14: bare behind others", x);
        Due.is("14: over ahead of the bare one", x.walk(0, 2, 60), 60);
        Busy.told().lefts(0, 1, NONE).wears(6, 12, 0).more(10, 100, 101, 10, 201, 200, 100, 101, 201, 200)
            .look("14: over ahead of the bare one", x);
        VaultHands y = Busy.desk();
        y.hang(0, 1, NONE);
        Due.is("14: the right hand is not looked at", y.walk(0, 1, 40), 40);
        Busy.told().rights(NONE, 0, NONE).wears(5, 8, 0).more(100, 200).look("14: the right hand", y);
    }

    private static void p14EachAsOftenAsItWasComeTo() {
        VaultHands x = Busy.desk();
        x.link(1, 1);
        Due.is("14: nine times at one", x.walk(1, 9, 180), 180);
        Busy.told().wears(4, 26, 0).more(101, 101, 101, 101, 101, 101, 101, 101, 101)
            .more(201, 201, 201, 201, 201, 201, 201, 201, 201).look("14: nine times at one", x);
        VaultHands y = Busy.desk();
        Due.is("14: the first one again", y.walk(0, 4, 100), 100);
        Busy.told().wears(6, 10, 1).more(100, 101, 102, 100, 200, 202, 201, 200).look("14: the first one again", y);
    }

    private static void p14Jammed() {
        Busy.answers("14: jammed when it is come to again", x -> x.walk(0, 6, 1000), JAMMED,
            Busy.told().wears(6, 12, 1).more(100, 101, 102, 100, 101, 702, 601, 600, 602, 601, 600).alarms(2));
        Busy.answers("14: over ahead of the jam", x -> x.walk(0, 5, 1000), 120,
            Busy.told().wears(6, 12, 1).more(100, 101, 102, 100, 101, 201, 200, 202, 201, 200));
        VaultHands x = circle(6);
        Due.is("14: 54 are held", x.walk(0, 54, HIGH), 54000000);
        VaultHands y = circle(6);
        Due.is("14: the 55th jams", y.walk(0, 55, HIGH), JAMMED);
        int[] book = bookOfCircle(6, 54, 600);
        Told due = toldOfRow(all(6, 1000000)).wears(wearsOfCircle(6, 54)).alarms(1);
        due.book(Arrays.copyOf(book, 54)).more(700).more(Arrays.copyOfRange(book, 54, 108)).look("14: the 55th jams", y);
    }
}
