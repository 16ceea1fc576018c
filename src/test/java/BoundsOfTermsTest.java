/** The bounds that "Terms" 1 and 3 name, and promises 1 to 8: the last that does, and the first that does not. */
public final class BoundsOfTermsTest {
    private static final int ALL_TWENTY = (1 << 20) - 1;

    public static void main(String[] args) {
        nothingTold();
        sevenPeople();
        fourKinds();
        fourOffices();
        twentyBonds();
        eightOfAnOffice();
        fiveOfAPerson();
        payYearsTown();
        setsAsBits();
        listsAtFirstAndFull();
        clearedLists();
        nothingBehindAll();
        notListedNeverTaken();
        twoCouples();
        eightPairs();
        pairsOnce();
        nothingBehindAllPairs();
        ownListsDoNotMatter();
        anObjectsCalls();
        Check.close("BoundsOfTermsTest");
    }

    /** Promise 1: "Nothing told." */
    private static void nothingTold() {
        int[][] due = {{0, 0}, {1, 0}, {2, 0}, {3, 0}, {4, 0}, {5, 0}};
        for (int[] d : due) {
            Check.due("count(" + d[0] + ") at first", new SealedBonds().count(d[0]), d[1]);
        }
        Check.row("at first", new SealedBonds());
        Check.due("take of no OFFICE", new SealedBonds().take(0, 0), -1);
        Check.due("choice of no OFFICE", new SealedBonds().choice(0), -100);
        Check.due("the empty set STANDS", new SealedBonds().judge(0), 0);
        Check.due("no BOND 0", new SealedBonds().judge(1), -1);
        SealedBonds x = new SealedBonds();
        Check.due("the empty one alone", x.all(), 1);
        Check.row("the empty one alone", x, 0);
        Check.due("it is the best", x.best(0), 0);
        Check.due("no step to itself", x.steps(0, 0), 0);
        Check.due("nobody is left", x.left(), 0);
        Check.due("no OFFICE has the same", x.same(), 0);
        Check.due("nobody has a BOND in the midst", x.mean(), 0);
        Check.due("no place more", x.places(), 0);
        Check.row("of no OFFICE", x);
        SealedBonds other = new SealedBonds();
        other.person(0);
        Check.due("objects have nothing in common", new SealedBonds().count(0), 0);
    }

    /** Terms 1: "PEOPLE 0 .. (at most 7)". The last one is one like the others. */
    private static void sevenPeople() {
        SealedBonds x = new SealedBonds();
        for (int p = 0; p < 6; p++) {
            x.person(0);
        }
        Check.due("the seventh", x.person(0), 6);
        Check.due("an eighth", x.person(0), -1);
        Check.due("PEOPLE", x.count(0), 7);
        x.office();
        Check.due("a BOND of the seventh", x.bond(6, 0, 1, 1, 1), 0);
        Check.due("a BOND of an eighth", x.bond(7, 0, 1, 1, 1), -1);
        Check.due("on its LIST", x.list(0), 1);
        Check.choice(x, 0, "q1;w6&6");
        Check.choice(x, 0, "q1");
        Check.due("it offers", x.offer(), 1);
        Check.due("all others are left", x.left(), 63);
        Check.due("gone", x.gone(0, 6), 1);
        Check.row("gone", x, 0, 64);
        Check.due("an eighth is not gone", x.gone(0, 7), -1);
        Check.due("what it has in the midst", x.mean(), 1);
        Check.due("no gain", x.gain(6), 0);
        Check.due("gain of an eighth", x.gain(7), -1);
        Check.due("clear", x.clear(6), 1);
        Check.due("clear of an eighth", x.clear(7), -1);
        Check.due("left", x.left(), 127);
        Check.due("with an eighth", x.couple(6, 7), -1);
        Check.due("a COUPLE", x.couple(6, 0), 0);
    }

    /** Terms 1: "each of a KIND 0 .. 3". */
    private static void fourKinds() {
        SealedBonds x = new SealedBonds();
        x.office();
        Check.due("person(-1)", x.person(-1), -1);
        for (int kind = 0; kind < 4; kind++) {
            Check.due("person(" + kind + ")", x.person(kind), kind);
            x.bond(kind, 0, 0, 0, 0);
        }
        Check.due("person(4)", x.person(4), -1);
        Check.due("PEOPLE", x.count(0), 4);
        for (int kind = 0; kind < 4; kind++) {
            Check.choice(x, 0, "q4;k" + kind + "*4");
            Check.due("all places KEPT for KIND " + kind, x.take(0, 15), 1 << kind);
        }
        Check.choice(x, 0, "r+k");
        Check.due("the greatest KIND ahead", x.order(3), 0);
        Check.due("the least behind", x.order(0), 3);
    }

    /** Terms 1: "OFFICES 0 .. (at most 4)". The last one is one like the others. */
    private static void fourOffices() {
        SealedBonds x = Check.market(1, 3);
        Check.due("the fourth", x.office(), 3);
        Check.due("a fifth", x.office(), -1);
        Check.due("OFFICES", x.count(1), 4);
        Check.due("a BOND of the fourth", x.bond(0, 3, 1, 1, 1), 0);
        Check.due("a BOND of a fifth", x.bond(0, 4, 1, 1, 1), -1);
        Check.due("its text", Check.choice(x, 3, "q1"), 1);
        Check.due("a fifth's text", Check.choice(x, 4, "q1"), -100);
        Check.due("it takes", x.take(3, 1), 1);
        Check.due("a fifth takes", x.take(4, 1), -1);
        Check.due("why", x.why(3, 1, 0), 0);
        Check.due("why a fifth", x.why(4, 1, 0), -1);
        Check.due("law", x.law(3, 0), 1);
        Check.due("law of a fifth", x.law(4, 0), -1);
        x.list(0);
        Check.due("a set breaks the empty one", x.judge(0), 3);
        Check.row("a set breaks the empty one", x, 3, 1);
        Check.due("all have the same", x.same(), 15);
        Check.due("places", x.places(), 0);
        Check.row("places of four", x, 0, 0, 0, 0);
    }

    /** Twenty BONDS, five of each OFFICE, of PEOPLE 0 to 6 in turn. */
    private static SealedBonds twenty() {
        SealedBonds x = Check.market(7, 4);
        for (int b = 0; b < 20; b++) {
            Check.due("BOND " + b, x.bond(b % 7, b % 4, b, b % 10, b % 10), b);
        }
        return x;
    }

    /** Terms 1: "BONDS 0 .. (at most 20". The last one is one like the others. */
    private static void twentyBonds() {
        SealedBonds x = twenty();
        Check.due("a 21st", x.bond(6, 3, 0, 0, 0), -1);
        Check.due("BONDS", x.count(2), 20);
        Check.due("its PERSON", x.of(19, 0), 5);
        Check.due("its OFFICE", x.of(19, 1), 3);
        Check.due("its PAY", x.of(19, 2), 19);
        Check.due("of a 21st", x.of(20, 0), -1);
        Check.due("its place", x.order(19), 4);
        Check.due("place of a 21st", x.order(20), -1);
        Check.due("on the LIST", x.list(19), 1);
        Check.due("a 21st on a LIST", x.list(20), -1);
        Check.choice(x, 3, "q1;r+p");
        Check.due("taken of all", x.take(3, ALL_TWENTY), 1 << 19);
        Check.due("why", x.why(3, ALL_TWENTY, 19), 0);
        Check.due("why a 21st", x.why(3, ALL_TWENTY, 20), -1);
        Check.due("offered", x.offer(), 1 << 19);
        Check.due("it STANDS", x.judge(1 << 19), 0);
        Check.due("always", x.lot(19), 1000);
        Check.due("lot of a 21st", x.lot(20), -1);
        Check.due("in the midst", x.mean(), 1 << 19);
        Check.due("gone", x.gone(1, 19), 1);
        Check.row("gone", x, 0, 32);
        Check.due("a 21st is not gone", x.gone(1, 20), -1);
        x.couple(5, 6);
        Check.due("a PAIR", x.pair(0, 19, -1), 1);
        Check.due("a PAIR with a 21st", x.pair(0, 20, -1), -1);
    }

    /** Terms 1: "at most 8 of one OFFICE". All eight are offered and ordered. */
    private static void eightOfAnOffice() {
        SealedBonds x = Check.market(7, 2);
        for (int b = 0; b < 7; b++) {
            x.bond(b % 6, 0, b, 0, 0);
        }
        Check.due("the eighth", x.bond(6, 0, 7, 0, 0), 7);
        Check.due("a ninth", x.bond(1, 0, 8, 0, 0), -1);
        Check.due("one of the other OFFICE", x.bond(1, 1, 8, 0, 0), 8);
        Check.due("BONDS", x.count(2), 9);
        Check.choice(x, 0, "r+p");
        Check.due("the eighth is ahead", x.order(7), 0);
        Check.due("the first is behind", x.order(0), 7);
        Check.due("seven PEOPLE taken", x.take(0, 511), 0b11111110);
        Check.due("two of one", x.why(0, 511, 0), 1);
        Check.choice(x, 0, "q1;r-p");
        Check.due("faith", x.law(0, 0), 1);
        Check.choice(x, 0, "w1&6;r+p");
        Check.due("the eighth in a BREACH", x.law(0, 0), 0);
        Check.row("the eighth in a BREACH", x, 2, 7, 1);
    }

    /** Terms 1: "5 of one of the PEOPLE". */
    private static void fiveOfAPerson() {
        SealedBonds x = Check.market(2, 2);
        for (int b = 0; b < 4; b++) {
            x.bond(1, b % 2, b, 0, 0);
        }
        Check.due("the fifth", x.bond(1, 0, 4, 0, 0), 4);
        Check.due("a sixth", x.bond(1, 0, 5, 0, 0), -1);
        Check.due("a sixth, of the other OFFICE", x.bond(1, 1, 5, 0, 0), -1);
        Check.due("one of the other PERSON", x.bond(0, 0, 5, 0, 0), 5);
        Check.due("BONDS", x.count(2), 6);
    }

    /** Terms 1: "PAY 0 .. 99, YEARS 0 .. 9, TOWN 0 .. 9." */
    private static void payYearsTown() {
        int[] greatest = {99, 9, 9};
        for (int field = 0; field < 3; field++) {
            for (int n : new int[] {0, 1, greatest[field] - 1, greatest[field]}) {
                SealedBonds x = Check.market(1, 1);
                Check.due("field " + field + " of " + n, bondWith(x, field, n), 0);
                Check.due("field " + field + " kept", x.of(0, 2 + field), n);
            }
            for (int n : new int[] {-1, greatest[field] + 1}) {
                SealedBonds x = Check.market(1, 1);
                Check.due("field " + field + " of " + n, bondWith(x, field, n), -1);
                Check.due("no BOND", x.count(2), 0);
            }
        }
    }

    private static int bondWith(SealedBonds x, int field, int n) {
        return x.bond(0, 0, field == 0 ? n : 5, field == 1 ? n : 5, field == 2 ? n : 5);
    }

    /** Terms 1: "Sets of BONDS are told as bits." */
    private static void setsAsBits() {
        SealedBonds x = twenty();
        Check.due("all twenty", x.judge(ALL_TWENTY), 1);
        Check.due("a bit more", x.judge(1 << 20), -1);
        Check.due("all bits", x.judge(-1), -1);
        Check.due("all twenty offered", x.take(0, ALL_TWENTY), 0);
        Check.due("a bit more offered", x.take(0, ALL_TWENTY + 1), -1);
        for (int bonds = 0; bonds < 4; bonds++) {
            SealedBonds y = Check.market(4, 1);
            for (int b = 0; b < bonds; b++) {
                y.bond(b, 0, 0, 0, 0);
                y.list(b);
            }
            Check.choice(y, 0, "q4");
            int every = (1 << bonds) - 1;
            Check.due("all of " + bonds, y.judge(every), 0);
            Check.due("one more than " + bonds, y.judge(every + 1), -1);
            Check.due("take all of " + bonds, y.take(0, every), every);
            Check.due("take one more than " + bonds, y.take(0, every + 1), -1);
            Check.due("all", y.all(), 1);
            Check.row("all", y, every);
        }
    }

    /** Terms 1: "A PERSON's LIST: some of its BONDS, the best first (at first none)." */
    private static void listsAtFirstAndFull() {
        SealedBonds x = Check.market(1, 1);
        for (int b = 0; b < 5; b++) {
            x.bond(0, 0, b, 0, 0);
            Check.due("at first on no LIST", x.of(b, 5), -1);
        }
        Check.due("at first an empty LIST", x.clear(0), 0);
        Check.choice(x, 0, "q1");
        Check.due("nothing offered", x.offer(), 0);
        Check.row("nothing offered", x, 0, 0);
        int[] order = {3, 0, 4, 2, 1};
        for (int i = 0; i < 5; i++) {
            Check.due("list(" + order[i] + ")", x.list(order[i]), i + 1);
            Check.due("place of " + order[i], x.of(order[i], 5), i);
            Check.due("list(" + order[i] + ") again", x.list(order[i]), -1);
        }
        Check.due("the best first", x.offer(), 8);
        Check.row("the best first", x, 1, 1);
        Check.choice(x, 0, "q0");
        Check.due("all refused", x.offer(), 0);
        Check.row("all five offered in five rounds", x, 5, 5);
        Check.due("five were on it", x.clear(0), 5);
    }

    /** Promise 6: "A PERSON's LIST is empty then: how many were on it." */
    private static void clearedLists() {
        SealedBonds x = Check.market(2, 1, Check.b(0, 0), Check.b(0, 0), Check.b(1, 0));
        Check.choice(x, 0, "q2");
        Check.due("none were on it", x.clear(0), 0);
        x.list(1);
        x.list(2);
        Check.due("one was on it", x.clear(0), 1);
        Check.due("none are on it", x.clear(0), 0);
        Check.due("not on it", x.of(1, 5), -1);
        Check.due("the other's LIST stays", x.of(2, 5), 0);
        Check.due("nothing of the first offered", x.offer(), 4);
        Check.due("nothing of the first STANDS", x.judge(2), 2);
        Check.due("from the start again", x.list(0), 1);
        Check.due("and on", x.list(1), 2);
        Check.due("the new first", x.offer(), 5);
    }

    /** Terms 1: "To have nothing comes behind all that is listed". */
    private static void nothingBehindAll() {
        SealedBonds x = Check.market(1, 1);
        for (int b = 0; b < 5; b++) {
            x.bond(0, 0, b, 0, 0);
        }
        Check.choice(x, 0, "q1;r+p");
        Check.due("nothing is as good as it gets", x.judge(0), 0);
        for (int b = 0; b < 5; b++) {
            x.list(b);
        }
        Check.due("the least Z", x.judge(0), 3);
        Check.row("the least Z", x, 0, 1);
        Check.due("each of five, not nothing", x.all(), 5);
        Check.row("each of five, not nothing", x, 1, 2, 4, 8, 16);
        Check.due("the first listed is the best", x.best(0), 1);
        Check.due("the last listed is the worst", x.best(1), 16);
    }

    /** Terms 1: "what is not listed is never taken." */
    private static void notListedNeverTaken() {
        SealedBonds x = Check.market(1, 1, Check.b(0, 0), Check.b(0, 0));
        Check.choice(x, 0, "q1");
        Check.due("not listed", x.judge(1), 2);
        Check.due("nothing", x.all(), 1);
        Check.row("nothing", x, 0);
        x.list(1);
        Check.due("the other is not listed", x.judge(1), 2);
        Check.due("it does not break what is had", x.judge(2), 0);
        Check.due("nor is it near", x.near(), 0);
        Check.row("near", x, 2);
        Check.due("the one alone", x.all(), 1);
        Check.row("the one alone", x, 2);
        Check.due("never", x.lot(0), 0);
        Check.row("never", x, 0, 1);
    }

    /** Terms 1: "A COUPLE (at most 2): two PEOPLE (each in one at most)". */
    private static void twoCouples() {
        SealedBonds x = Check.market(7, 1);
        Check.due("one and the same", x.couple(5, 5), -1);
        Check.due("the first COUPLE", x.couple(6, 5), 0);
        int[][] again = {{6, 4}, {4, 6}, {5, 4}, {4, 5}, {6, 5}, {5, 6}};
        for (int[] a : again) {
            Check.due("couple(" + a[0] + ", " + a[1] + ")", x.couple(a[0], a[1]), -1);
        }
        Check.due("COUPLES", x.count(3), 1);
        Check.due("the second COUPLE", x.couple(0, 4), 1);
        Check.due("a third", x.couple(1, 2), -1);
        Check.due("COUPLES", x.count(3), 2);
        int[] due = {-1, 0, 0, 0, -1, -1, -1};
        for (int p = 0; p < 7; p++) {
            Check.due("gain(" + p + ")", x.gain(p), due[p]);
        }
    }

    /** PEOPLE 0 and 1 with three BONDS each (even and odd ones), a COUPLE; PERSON 2 with BOND 6. */
    private static SealedBonds couple() {
        SealedBonds x = Check.market(3, 2);
        for (int i = 0; i < 6; i++) {
            x.bond(i % 2, i % 2, i, 0, 0);
        }
        x.bond(2, 0, 0, 0, 0);
        x.couple(0, 1);
        Check.choice(x, 0, "q2");
        Check.choice(x, 1, "q2");
        return x;
    }

    /** Terms 1: "a LIST of PAIRS (at most 8), the best first". The eighth is one like the others. */
    private static void eightPairs() {
        SealedBonds x = couple();
        int[][] pairs = {{0, 1}, {0, 3}, {0, 5}, {2, 1}, {2, 3}, {2, 5}, {4, 1}, {4, 3}};
        for (int i = 0; i < 8; i++) {
            Check.due("PAIR " + i, x.pair(0, pairs[i][0], pairs[i][1]), i + 1);
        }
        Check.due("a ninth", x.pair(0, 4, 5), -1);
        Check.due("a ninth is not listed", x.judge(1 << 4 | 1 << 5), 2);
        Check.due("the eighth is listed", x.judge(1 << 4 | 1 << 3), 4);
        Check.row("the best first", x, 0, 0);
        Check.due("the best STANDS alone", x.all(), 1);
        Check.row("the best STANDS alone", x, 3);
        Check.due("both COUPLES have eight", secondCouple(x), 8);
        Check.choice(x, 1, "q4");
        Check.due("a ninth of the second is not listed", x.judge(3 | 1 << 7 | 1 << 9), 2);
        Check.due("its eighth is listed", x.judge(3 | 1 << 10 | 1 << 8), 4);
        Check.row("its eighth is listed", x, 1, 0);
        Check.due("both have their best", x.all(), 1);
        Check.row("both have their best", x, 3 | 1 << 7 | 1 << 6);
        Check.due("it is near", x.near(), 0);
        Check.due("it needs no place", x.places(), 0);
    }

    private static int secondCouple(SealedBonds x) {
        x.person(0);
        x.bond(3, 1, 0, 0, 0);
        x.bond(2, 1, 0, 0, 0);
        x.bond(2, 1, 0, 0, 0);
        x.bond(3, 1, 0, 0, 0);
        x.couple(3, 2);
        int many = 0;
        int[][] pairs = {{7, 6}, {7, -1}, {-1, 6}, {10, 6}, {10, -1}, {7, 8}, {-1, 8}, {10, 8}};
        for (int[] p : pairs) {
            many = x.pair(1, p[0], p[1]);
        }
        return x.pair(1, 7, 9) == -1 ? many : -1;
    }

    /** Terms 1: "a BOND of the first or NONE, a BOND of the second or NONE, not both NONE, each PAIR once". */
    private static void pairsOnce() {
        SealedBonds x = couple();
        Check.due("both NONE", x.pair(0, -1, -1), -1);
        Check.due("the first with NONE", x.pair(0, 0, -1), 1);
        Check.due("NONE with the second", x.pair(0, -1, 1), 2);
        Check.due("both", x.pair(0, 0, 1), 3);
        Check.due("the first with NONE again", x.pair(0, 0, -1), -1);
        Check.due("NONE with the second again", x.pair(0, -1, 1), -1);
        Check.due("both again", x.pair(0, 0, 1), -1);
        Check.due("crosswise", x.pair(0, 1, 0), -1);
        Check.due("the second's as the first's", x.pair(0, 1, -1), -1);
        Check.due("the first's as the second's", x.pair(0, -1, 0), -1);
        Check.due("another's as the first's", x.pair(0, 6, 1), -1);
        Check.due("another's as the second's", x.pair(0, 0, 6), -1);
        Check.due("no such BOND", x.pair(0, 7, 1), -1);
        Check.due("below NONE", x.pair(0, -2, 1), -1);
        Check.due("the next", x.pair(0, 2, 1), 4);
    }

    /** Terms 1: "To have nothing comes behind all that is listed", for PAIRS too. */
    private static void nothingBehindAllPairs() {
        SealedBonds x = couple();
        Check.due("no PAIR: nothing STANDS for them", x.judge(0), 0);
        x.pair(0, 2, 3);
        Check.due("a PAIR is better than nothing", x.judge(0), 4);
        Check.row("a PAIR is better than nothing", x, 0, 0);
        Check.due("half of it is not FREE", x.judge(4), 2);
        Check.due("the other half is not", x.judge(8), 2);
        Check.due("it STANDS", x.judge(12), 0);
        x.pair(0, 2, -1);
        Check.due("half of it is a PAIR now", x.judge(4), 4);
        Check.row("half of it is a PAIR now", x, 0, 0);
        Check.choice(x, 1, "q0");
        Check.due("the half STANDS", x.judge(4), 0);
        Check.due("the half is better than nothing", x.judge(0), 4);
        Check.row("the half is better than nothing", x, 0, 1);
    }

    /** Terms 1: "their own LISTS do not matter then". */
    private static void ownListsDoNotMatter() {
        SealedBonds x = couple();
        Check.lists(x, 0, 1);
        Check.due("nothing offered", x.offer(), 0);
        Check.row("nothing offered", x, 0, 0);
        Check.due("no wish", x.judge(0), 0);
        Check.due("what is on their LISTS is not FREE", x.judge(1), 2);
        Check.due("nor both", x.judge(3), 2);
        Check.due("none by itself", x.near(), 0);
        x.pair(0, 4, 5);
        Check.due("a PAIR of what is on no LIST", x.judge(48), 0);
        Check.due("still listed", x.of(0, 5), 0);
        Check.due("still cleared", x.clear(0), 1);
        Check.due("still to be listed", x.list(2), 1);
        SealedBonds y = Check.market(2, 1, Check.b(0, 0));
        y.list(0);
        Check.choice(y, 0, "q1");
        Check.due("offered, as long as alone", y.offer(), 1);
        y.couple(1, 0);
        Check.due("not as one of two", y.offer(), 0);
    }

    /** "An object is used for at most 512 calls": the last of them answers as the first. */
    private static void anObjectsCalls() {
        SealedBonds x = Check.market(1, 1, Check.b(0, 0));
        x.sign(0x71310000);
        x.end(2);
        x.choice(0);
        for (int call = 6; call < 512; call++) {
            Check.due("call " + (call + 1), call % 2 == 0 ? x.list(0) : x.clear(0), 1);
        }
    }
}
