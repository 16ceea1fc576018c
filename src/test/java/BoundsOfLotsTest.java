import java.util.NoSuchElementException;

/** The bounds of promises 23 to 31: gain, left, same, lot, mean, gone, count, of and row. */
public final class BoundsOfLotsTest {
    public static void main(String[] args) {
        gainOfNobody();
        gainNone();
        gainWithoutOutcome();
        gainOfOneToFive();
        gainByItsOwn();
        gainFirstRow();
        gainByItsList();
        leftInEach();
        sameInEach();
        lotFromNeverToAlways();
        lotOfNone();
        meanInTheMidst();
        meanNothingLast();
        goneOfNone();
        gonePeople();
        goneBonds();
        goneWithoutOutcome();
        countWhat();
        ofWhat();
        rowBounds();
        rowToldLast();
        Check.close("BoundsOfLotsTest");
    }

    // ---- false lists

    /** Promise 23: "NONE: none such, it is in a COUPLE." */
    private static void gainOfNobody() {
        SealedBonds x = Check.market(3, 1);
        Check.due("the last", x.gain(2), 0);
        Check.due("one behind", x.gain(3), -1);
        Check.due("one ahead", x.gain(-1), -1);
        Check.due("the least", x.gain(Integer.MIN_VALUE), -1);
        Check.due("the greatest", x.gain(Integer.MAX_VALUE), -1);
        x.couple(2, 0);
        Check.due("the first of a COUPLE", x.gain(2), -1);
        Check.due("the second of a COUPLE", x.gain(0), -1);
        Check.due("the one in none", x.gain(1), 0);
        Check.row("nothing told", x);
    }

    /** Promise 23: "0: there is none". */
    private static void gainNone() {
        SealedBonds x = Check.market(2, 1, Check.b(0, 0), Check.b(0, 0), Check.b(1, 0));
        Check.choice(x, 0, "q1");
        x.law(0, 0);
        Check.due("no LIST, no gain", x.gain(0), 0);
        Check.lists(x, 0, 1, 2);
        Check.due("who has the best", x.gain(0), 0);
        Check.due("who can't have any", x.gain(1), 0);
        Check.row("nothing told", x);
        x.offer();
        Check.due("who has the best", x.gain(0), 0);
        Check.row("the former ROW", x, 1, 2);
    }

    /** Promise 23: "(or no outcome as it is)"; and a false LIST without an outcome brings nothing. */
    private static void gainWithoutOutcome() {
        SealedBonds x = Check.market(2, 2, Check.b(0, 0), Check.b(0, 1), Check.b(1, 1), Check.b(1, 0));
        Check.lists(x, 0, 1, 2, 3);
        Check.choice(x, 0, "w0&1");
        Check.choice(x, 1, "w0&1");
        Check.due("held twice", x.offer(), -3);
        Check.due("no gain", x.gain(0), 0);
        Check.due("no gain of the other", x.gain(1), 0);
        Check.row("nothing told", x);
        x.clear(0);
        x.list(1);
        Check.due("an outcome", x.offer(), 6);
        Check.due("who has the best", x.gain(0), 0);
        x.clear(1);
        Check.due("one alone has nothing", x.offer(), 0);
        Check.due("nor by a false LIST", x.gain(0), 0);
    }

    /**
     * PERSON 2 does best to come late with BOND 2: by so many idle offers as it takes. The others come later by the
     * number told, and the LIST that gains is by so much longer than three.
     */
    private static SealedBonds late(int later) {
        SealedBonds x = notLateEnough(later);
        x.list(x.bond(2, 0, 0, 0, 0));
        return x;
    }

    /** The same, but PERSON 2 has one BOND too few for it. */
    private static SealedBonds notLateEnough(int later) {
        SealedBonds x = Check.market(3, 2);
        int[][] paid = {{0, 40}, {1, 10}, {2, 30}, {1, 20}, {1, 40}, {0, 10}};
        for (int[] b : paid) {
            x.bond(b[0], 1, b[1], 0, 0);
        }
        for (int i = 0; i < later; i++) {
            x.list(x.bond(0, 0, 0, 0, 0));
            x.list(x.bond(1, 0, 0, 0, 0));
        }
        for (int i = 0; i <= later; i++) {
            x.list(x.bond(2, 0, 0, 0, 0));
        }
        Check.lists(x, 5, 0, 4, 3, 1, 2);
        Check.choice(x, 1, "c50;w1&2");
        return x;
    }

    /** Promise 23: "any row of BONDS of its, each once": of one to five. */
    private static void gainOfOneToFive() {
        SealedBonds three = late(0);
        Check.due("what it has as it is", three.offer(), 1);
        Check.due("by three", three.gain(2), 1);
        Check.row("by three", three, 6, 7, 2);
        Check.due("the LIST stays", three.of(2, 5), 1);
        Check.due("what it has stays", three.offer(), 1);
        SealedBonds four = late(1);
        Check.due("by four", four.gain(2), 1);
        Check.row("by four", four, 8, 9, 10, 2);
        SealedBonds five = late(2);
        Check.due("by all five", five.gain(2), 1);
        Check.row("by all five", five, 10, 11, 12, 13, 2);
        Check.due("told so it gains", toldSo(five, 2, 10, 11, 12, 13, 2) & 4, 4);
        SealedBonds one = late(0);
        Check.choice(one, 1, "c30;w1&2");
        Check.due("nothing can be for both", one.gain(2), 0);
    }

    /** Promise 23: "any row of BONDS of its, each once": none of another's, none twice. */
    private static void gainByItsOwn() {
        for (int later = 0; later <= 2; later++) {
            SealedBonds x = notLateEnough(later);
            Check.due(later + 2 + " BONDS are one too few", x.gain(2), 0);
            x.bond(0, 1, 0, 0, 0);
            Check.due("another's does not help", x.gain(2), 0);
            int own = x.bond(2, 0, 0, 0, 0);
            Check.due("one of its own does, though it is on no LIST", x.gain(2), 1);
            Check.due("it is in the row", x.row(x.count(5) - 2), own);
        }
        SealedBonds last = Check.market(7, 4);
        for (int b = 0; b < 5; b++) {
            last.list(last.bond(6, b % 4, 0, 0, 0));
        }
        Check.due("five BONDS of the last PERSON, none taken", last.gain(6), 0);
        Check.choice(last, 0, "q1");
        Check.due("five BONDS of the last PERSON, the best taken", last.gain(6), 0);
        Check.row("nothing told", last);
    }

    private static int toldSo(SealedBonds x, int person, int... list) {
        x.clear(person);
        Check.lists(x, list);
        return x.offer();
    }

    /** Promise 23: "(the first with the fewest BONDS, of these the first row of numbers)". */
    private static void gainFirstRow() {
        // PERSON 0 asks too much at first: either of its cheaper BONDS would do, and any row that begins with one.
        SealedBonds x = Check.market(2, 1);
        int[][] paid = {{1, 20}, {0, 30}, {0, 20}, {0, 20}, {1, 10}};
        for (int[] b : paid) {
            x.bond(b[0], 0, b[1], 0, 0);
        }
        Check.choice(x, 0, "c30");
        Check.lists(x, 1, 3, 2, 4, 0);
        Check.due("as it is", x.offer(), 1);
        Check.due("two would do", x.gain(0), 1);
        Check.row("the first by numbers, not by its LIST", x, 2);
        x.clear(0);
        Check.lists(x, 1, 3);
        Check.due("one would do", x.gain(0), 1);
        Check.row("the other is on no LIST, so it is no gain", x, 3);
        x.clear(0);
        x.list(1);
        Check.due("what it would get is not listed", x.gain(0), 0);
    }

    /** Promise 23: "brings it what is better by its LIST". */
    private static void gainByItsList() {
        SealedBonds x = late(0);
        x.clear(2);
        Check.lists(x, 7, 6);
        Check.due("BOND 2 is not on it", x.gain(2), 0);
        x.list(2);
        Check.due("it comes late by itself", x.offer() & 4, 4);
        Check.due("what it has is the best that it can get", x.gain(2), 0);
        x.clear(2);
        Check.lists(x, 2);
        Check.due("it comes too early", x.offer() & 4, 0);
        Check.due("BONDS on no LIST may be offered", x.gain(2), 1);
        Check.row("BONDS on no LIST may be offered", x, 6, 7, 2);
    }

    /** Promise 24: "PEOPLE (bits) who have nothing in each of ALL. -2: nothing STANDS." */
    private static void leftInEach() {
        Check.due("nobody there", new SealedBonds().left(), 0);
        SealedBonds x = Check.market(7, 1);
        Check.due("all seven", x.left(), 127);
        x.bond(6, 0, 0, 0, 0);
        x.list(0);
        Check.due("no text", x.left(), 127);
        Check.choice(x, 0, "q1");
        Check.due("all but the last", x.left(), 63);
        Check.due("something in one of ALL is enough", MatchingTest.fork().left(), 0);
        SealedBonds first = Check.market(3, 1, Check.b(0, 0), Check.b(1, 0));
        first.bond(0, 0, 20, 0, 0);
        Check.lists(first, 0, 1, 2);
        Check.choice(first, 0, "c20;r+p");
        Check.due("two STAND", first.all(), 2);
        Check.row("two STAND", first, 3, 4);
        Check.due("something in the first of ALL is enough", first.left(), 4);
        Check.due("nothing STANDS", NoneTest.unsettled().left(), -2);
        SealedBonds couple = Check.market(2, 1, Check.b(0, 0));
        couple.couple(1, 0);
        couple.pair(0, -1, 0);
        Check.choice(couple, 0, "q1");
        Check.due("one of a COUPLE", couple.left(), 2);
    }

    /** Promise 25: "OFFICES (bits) that have the same BONDS in each of ALL. -2: nothing STANDS." */
    private static void sameInEach() {
        Check.due("no OFFICE there", new SealedBonds().same(), 0);
        SealedBonds x = Check.market(2, 4, Check.b(0, 3), Check.b(0, 3), Check.b(1, 1));
        Check.due("all four have none", x.same(), 15);
        Check.lists(x, 1, 0, 2);
        Check.choice(x, 3, "q1");
        Check.choice(x, 1, "q1");
        Check.due("two STAND", x.all(), 2);
        Check.due("as many, but others", x.same(), 7);
        SealedBonds y = Check.market(2, 2, Check.b(0, 0), Check.b(1, 0), Check.b(1, 1), Check.b(0, 1), Check.b(1, 0));
        Check.lists(y, 4, 3, 1, 0, 2);
        Check.choice(y, 0, "w0&1");
        Check.choice(y, 1, "w0&1");
        Check.due("three STAND", y.all(), 3);
        Check.row("three STAND", y, 3, 12, 17);
        Check.due("another in one of ALL is enough", y.same(), 0);
        x.clear(0);
        x.list(0);
        Check.due("of one that STANDS all have the same", x.same(), 15);
        Check.due("nothing STANDS", NoneTest.unsettled().same(), -2);
    }

    // ---- lots

    /** So many BONDS of one PERSON, each of which STANDS. */
    private static SealedBonds draws(int bonds) {
        SealedBonds x = Check.market(1, 1);
        for (int b = 0; b < bonds; b++) {
            x.bond(0, 0, 0, 0, 0);
        }
        for (int b = bonds - 1; b >= 0; b--) {
            x.list(b);
        }
        Check.choice(x, 0, "q1");
        return x;
    }

    /** Promise 26: "above and below the line, cut down (0, 1 if never): 1000 times it (cut)". */
    private static void lotFromNeverToAlways() {
        int[] thousands = {0, 1000, 500, 333, 250, 200};
        for (int many = 1; many <= 5; many++) {
            SealedBonds x = draws(many);
            Check.due("one of " + many, x.lot(many - 1), thousands[many]);
            Check.row("one of " + many, x, 1, many);
        }
        SealedBonds never = draws(3);
        never.clear(0);
        Check.lists(never, 2, 1);
        Check.due("never", never.lot(0), 0);
        Check.row("never", never, 0, 1);
        SealedBonds x = MatchingTest.fork();
        Check.due("one of three", x.lot(2), 333);
        Check.row("one of three", x, 1, 3);
        SealedBonds two = Check.market(2, 1);
        int[][] told = {{0, 20}, {0, 10}, {1, 10}, {1, 10}};
        for (int[] t : told) {
            two.bond(t[0], 0, t[1], 0, 0);
        }
        Check.lists(two, 3, 1, 0, 2);
        Check.choice(two, 0, "c20");
        Check.due("two of three, cut", two.lot(1), 666);
        Check.row("two of three, cut", two, 2, 3);
        SealedBonds six = product();
        Check.due("three of six, cut down", six.lot(3), 500);
        Check.row("three of six, cut down", six, 1, 2);
        Check.due("two of six, cut down", six.lot(0), 333);
        Check.row("two of six, cut down", six, 1, 3);
        SealedBonds one = NoneTest.unsettled();
        Check.choice(one, 1, "q2");
        Check.due("always", one.lot(3), 1000);
        Check.row("always", one, 1, 1);
    }

    /** PERSON 0 has one of three, PERSON 1 one of two. */
    private static SealedBonds product() {
        SealedBonds x = Check.market(2, 1, Check.b(0, 0), Check.b(0, 0), Check.b(0, 0), Check.b(1, 0), Check.b(1, 0));
        Check.lists(x, 2, 1, 0, 4, 3);
        Check.choice(x, 0, "q2");
        return x;
    }

    /** Promise 26: "-2: nothing STANDS; NONE: no such BOND." */
    private static void lotOfNone() {
        SealedBonds x = NoneTest.unsettled();
        x.judge(0);
        Check.due("nothing STANDS", x.lot(3), -2);
        Check.row("the former ROW", x, 0, 4);
        Check.due("no such BOND", x.lot(4), -1);
        Check.due("BOND -1", x.lot(-1), -1);
        SealedBonds y = draws(2);
        y.lot(0);
        Check.due("no such BOND", y.lot(2), -1);
        Check.due("BOND 32", y.lot(32), -1);
        Check.due("the least", y.lot(Integer.MIN_VALUE), -1);
        Check.row("the former ROW", y, 1, 2);
    }

    /** Promise 27: "(of n the one at n less 1, by 2, cut, from 0 on, the best first)". */
    private static void meanInTheMidst() {
        int[] due = {0, 1, 2, 2, 4, 4};
        for (int many = 1; many <= 5; many++) {
            Check.due("of " + many, draws(many).mean(), due[many]);
        }
        Check.due("as often as it has it", product().mean(), 2 | 16);
        Check.due("of none there", new SealedBonds().mean(), 0);
        Check.due("nothing STANDS", NoneTest.unsettled().mean(), -2);
        SealedBonds couple = Check.market(3, 1, Check.b(0, 0), Check.b(1, 0), Check.b(2, 0));
        couple.couple(0, 1);
        couple.pair(0, 0, 1);
        Check.lists(couple, 0, 1, 2);
        Check.choice(couple, 0, "q3");
        Check.due("it STANDS", couple.judge(7), 0);
        Check.due("PEOPLE of COUPLES nothing", couple.mean(), 4);
    }

    /** Promise 27: "nothing last". */
    private static void meanNothingLast() {
        // ALL: BOND 0 alone, BOND 2 alone, BONDS 1 and 3. PERSON 0 has something in one of three, PERSON 1 in each.
        SealedBonds x = MatchingTest.fork();
        Check.due("nothing in two of three", x.mean(), 2);
        // BONDS 0 and 2, or BOND 1 alone: of two the better, which is not nothing.
        SealedBonds y = Check.market(2, 1);
        y.bond(1, 0, 10, 0, 0);
        y.bond(1, 0, 20, 0, 0);
        y.bond(0, 0, 10, 0, 0);
        Check.lists(y, 1, 2, 0);
        Check.choice(y, 0, "c20");
        Check.due("two STAND", y.all(), 2);
        Check.due("nothing in one of two", y.mean(), 6);
    }

    // ---- what comes and goes

    /** Promise 28: "NONE: none such, another what." */
    private static void goneOfNone() {
        SealedBonds x = Check.market(2, 1, Check.b(0, 0), Check.b(1, 0), Check.b(1, 0));
        x.judge(0);
        int[][] others = {{0, 2}, {0, -1}, {1, 3}, {1, -1}, {2, 0}, {-1, 0}, {0, 32}, {1, 32}, {3, 1},
            {Integer.MIN_VALUE, 0}, {0, Integer.MIN_VALUE}, {1, Integer.MAX_VALUE}};
        for (int[] a : others) {
            Check.due("gone(" + a[0] + ", " + a[1] + ")", x.gone(a[0], a[1]), -1);
        }
        Check.row("nothing told", x);
        Check.due("the last PERSON", x.gone(0, 1), 0);
        Check.due("the last BOND", x.gone(1, 2), 0);
        Check.row("of no offers", x, 0, 0);
        Check.due("nobody there", new SealedBonds().gone(0, 0), -1);
        Check.due("no BOND there", new SealedBonds().gone(1, 0), -1);
    }

    /** Promise 28: "How many PEOPLE have another BOND (or one, or none) .., if a PERSON (what 0) offers nothing". */
    private static void gonePeople() {
        SealedBonds x = Check.market(7, 2, Check.b(0, 0), Check.b(1, 0), Check.b(1, 1), Check.b(6, 1), Check.b(5, 0));
        Check.lists(x, 0, 1, 2, 3);
        Check.choice(x, 0, "q1");
        Check.choice(x, 1, "q1");
        Check.due("offers", x.offer(), 1 | 4);
        Check.due("another, one, and none", x.gone(0, 0), 3);
        Check.row("another, one, and none", x, 2 | 8, 1 | 2 | 64);
        Check.due("one, and none", x.gone(0, 1), 2);
        Check.row("one, and none", x, 1 | 8, 2 | 64);
        Check.due("who has nothing leaves all as it is", x.gone(0, 6), 0);
        Check.row("who has nothing leaves all as it is", x, 1 | 4, 0);
        Check.due("who lists nothing", x.gone(0, 5), 0);
        Check.row("who lists nothing", x, 1 | 4, 0);
        Check.due("all are there again", x.offer(), 1 | 4);
        x.couple(5, 4);
        Check.due("one of a COUPLE", x.gone(0, 5), 0);
        Check.row("one of a COUPLE", x, 1 | 4, 0);
    }

    /** Promise 28: "or a BOND (what 1) is not there". */
    private static void goneBonds() {
        SealedBonds x = Check.market(2, 2, Check.b(0, 0), Check.b(1, 0), Check.b(0, 1), Check.b(1, 1), Check.b(1, 0));
        Check.lists(x, 0, 2, 1, 3);
        Check.choice(x, 0, "q1");
        Check.choice(x, 1, "q1");
        Check.due("offers", x.offer(), 1 | 8);
        Check.due("the one that is held", x.gone(1, 0), 2);
        Check.row("the one that is held", x, 2 | 4, 3);
        Check.due("one that is not held", x.gone(1, 1), 0);
        Check.row("one that is not held", x, 1 | 8, 0);
        Check.due("one that is never offered", x.gone(1, 2), 0);
        Check.row("one that is never offered", x, 1 | 8, 0);
        Check.due("the last of the LIST", x.gone(1, 3), 1);
        Check.row("the last of the LIST", x, 1, 2);
        Check.due("one that is not listed", x.gone(1, 4), 0);
        Check.row("one that is not listed", x, 1 | 8, 0);
        Check.due("all are there again", x.of(0, 5), 0);
        Check.due("in their places", x.of(2, 5), 1);
    }

    /** Promise 28: "-3: no outcome, with or without". */
    private static void goneWithoutOutcome() {
        SealedBonds x = Check.market(3, 2, Check.b(0, 0), Check.b(0, 1), Check.b(1, 1), Check.b(1, 0), Check.b(2, 0));
        Check.lists(x, 0, 1, 2, 3);
        Check.choice(x, 0, "w0&1");
        Check.choice(x, 1, "w0&1");
        Check.due("no outcome with", x.offer(), -3);
        Check.due("though there is one without", x.gone(0, 0), -3);
        Check.due("nor with a BOND that changes nothing", x.gone(1, 4), -3);
        Check.due("none such is asked first", x.gone(0, 3), -1);
        Check.due("another what is asked first", x.gone(2, 0), -1);
        Check.row("nothing told", x);
    }

    /** Promise 29: "NONE for another what." */
    private static void countWhat() {
        SealedBonds x = new SealedBonds();
        for (int what : new int[] {-1, 6, 7, 32, 256, Integer.MIN_VALUE, Integer.MAX_VALUE}) {
            Check.due("count(" + what + ")", x.count(what), -1);
        }
        for (int what = 0; what < 6; what++) {
            Check.due("count(" + what + ") at first", x.count(what), 0);
        }
        SealedBonds y = Markets.full();
        int[] due = {7, 4, 20, 2, 6};
        for (int what = 0; what < 5; what++) {
            Check.due("count(" + what + ") at most", y.count(what), due[what]);
        }
        Check.due("signs at most", Markets.withSigns(100).count(4), 100);
        SealedBonds z = fortyFive();
        Check.due("more than forty STAND", z.all(), 45);
        Check.due("numbers at most", z.count(5), 40);
    }

    /** 45 MATCHINGS that STAND. */
    private static SealedBonds fortyFive() {
        SealedBonds x = Check.market(3, 3);
        int[] many = {5, 3, 3};
        for (int p = 0; p < 3; p++) {
            int first = x.count(2);
            for (int i = 0; i < many[p]; i++) {
                x.bond(p, p, 0, 0, 0);
            }
            for (int i = many[p] - 1; i >= 0; i--) {
                x.list(first + i);
            }
            Check.choice(x, p, "q1");
        }
        return x;
    }

    /** Promise 30: "its place on the LIST, from 0 on (NONE: not on it). NONE: none such, another what." */
    private static void ofWhat() {
        SealedBonds x = Check.market(7, 4);
        x.bond(6, 3, 99, 9, 8);
        x.bond(0, 0, 0, 0, 0);
        int[] greatest = {6, 3, 99, 9, 8, -1};
        int[] least = {0, 0, 0, 0, 0, -1};
        for (int what = 0; what < 6; what++) {
            Check.due("of(0, " + what + ")", x.of(0, what), greatest[what]);
            Check.due("of(1, " + what + ")", x.of(1, what), least[what]);
        }
        x.list(1);
        Check.due("the first place", x.of(1, 5), 0);
        for (int what : new int[] {-1, 6, 7, Integer.MIN_VALUE, Integer.MAX_VALUE}) {
            Check.due("of(0, " + what + ")", x.of(0, what), -1);
        }
        for (int bond : new int[] {-1, 2, 3, 32, Integer.MIN_VALUE, Integer.MAX_VALUE}) {
            for (int what = 0; what < 6; what++) {
                Check.due("of(" + bond + ", " + what + ")", x.of(bond, what), -1);
            }
        }
    }

    private static boolean isNoNumber(SealedBonds x, int i) {
        try {
            x.row(i);
            return false;
        } catch (NoSuchElementException none) {
            return true;
        }
    }

    /** Promise 31: "NoSuchElementException: none such." */
    private static void rowBounds() {
        SealedBonds x = fortyFive();
        int[] outside = {0, 1, 39, 40, 41, -1, Integer.MIN_VALUE, Integer.MAX_VALUE};
        for (int i : outside) {
            Check.holds("row(" + i + ") of none", isNoNumber(x, i));
        }
        x.all();
        Check.holds("row(0) of forty", !isNoNumber(x, 0));
        Check.holds("row(39) of forty", !isNoNumber(x, 39));
        Check.holds("row(40) of forty", isNoNumber(x, 40));
        Check.holds("row(-1) of forty", isNoNumber(x, -1));
        Check.holds("row(256) of forty", isNoNumber(x, 256));
        x.offer();
        Check.holds("row(1) of two", !isNoNumber(x, 1));
        Check.holds("row(2) of two, though it was there", isNoNumber(x, 2));
        Check.holds("row(39) of two, though it was there", isNoNumber(x, 39));
        x.near();
        Check.holds("row(0) of one", !isNoNumber(x, 0));
        Check.holds("row(1) of one", isNoNumber(x, 1));
        SealedBonds none = NoneTest.unsettled();
        none.near();
        none.all();
        Check.holds("row(0) of none told", isNoNumber(none, 0));
    }

    /** Terms 3: "ROW: numbers told last by a call that says so." */
    private static void rowToldLast() {
        SealedBonds x = MatchingTest.fork();
        Check.due("law", x.law(0, 1), 0);
        Check.row("law", x, 10, 0);
        Check.due("judge", x.judge(0), 3);
        Check.row("judge", x, 0, 1);
        x.offer();
        Check.row("offer", x, 2, 3);
        x.all();
        Check.row("all", x, 1, 4, 10);
        x.near();
        Check.row("near", x, 1);
        x.places();
        Check.row("places", x, 0);
        x.lot(0);
        Check.row("lot", x, 1, 3);
        x.gone(1, 4);
        Check.row("gone", x, 4, 0);
    }
}
