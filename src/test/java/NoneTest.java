/** Promises 21 and 22: the nearest ones, and places that would do. */
public final class NoneTest {
    public static void main(String[] args) {
        near();
        places();
        placesInAll();
        placesThatDoNotDo();
        Check.close("NoneTest");
    }

    /** PEOPLE 0 and 1 are a COUPLE with one PAIR at two OFFICES; PERSON 2 gives way at the one, not at the other. */
    static SealedBonds unsettled() {
        SealedBonds x = Check.market(6, 4);
        unsettle(x, 0);
        return x;
    }

    private static void unsettle(SealedBonds x, int copy) {
        int p = 3 * copy;
        int o = 2 * copy;
        int b = x.bond(p, o, 0, 0, 0);
        x.bond(p + 1, o + 1, 0, 0, 0);
        x.bond(p + 2, o, 0, 0, 0);
        x.bond(p + 2, o + 1, 0, 0, 0);
        x.couple(p, p + 1);
        x.pair(copy, b, b + 1);
        Check.lists(x, b + 2, b + 3);
        Check.choice(x, o, "q1;r-n");
        Check.choice(x, o + 1, "q1;r+n");
    }

    private static void near() {
        SealedBonds x = unsettled();
        Check.due("near", x.near(), 1);
        Check.row("near", x, 3);
        unsettle(x, 1);
        Check.due("near twice", x.near(), 2);
        Check.row("near twice", x, 51);
        SealedBonds y = Check.market(3, 1, Check.b(0, 0), Check.b(1, 0), Check.b(2, 0));
        Check.lists(y, 0, 1, 2);
        Check.choice(y, 0, "q2;w1&2");
        Check.due("sets of two are no bonds by themselves", y.near(), 0);
        Check.row("the first by bits", y, 1);
        y.clear(0);
        Check.due("near", y.near(), 0);
        Check.row("nothing", y, 0);
    }

    private static void places() {
        SealedBonds x = unsettled();
        Check.due("places", x.places(), 1);
        Check.row("the first row of two that do", x, 0, 1, 0, 0);
        Check.due("nothing is changed", x.all(), 0);
        Check.choice(x, 1, "q2;r+n");
        Check.due("with a place more it stands", x.all(), 1);
        Check.row("with a place more it stands", x, 11);
        Check.due("none more", x.places(), 0);
        Check.row("none more", x, 0, 0, 0, 0);
        SealedBonds y = unsettled();
        unsettle(y, 1);
        Check.due("two places", y.places(), 2);
        Check.row("two places", y, 0, 1, 0, 1);
    }

    /** The COUPLE has a cheap BOND ahead of all single ones, and likes one better that is behind them. */
    private static SealedBonds backAndForth(int singles, String text) {
        SealedBonds x = Check.market(singles + 2, 1);
        x.bond(0, 0, 0, 0, 0);
        for (int i = 0; i < singles; i++) {
            Check.lists(x, x.bond(i + 2, 0, 0, 0, 0));
        }
        int last = x.bond(0, 0, 0, 0, 0);
        x.couple(1, 0);
        x.pair(0, -1, last);
        x.pair(0, -1, 0);
        Check.choice(x, 0, text);
        return x;
    }

    private static void placesInAll() {
        SealedBonds x = backAndForth(3, "q1");
        Check.due("three places", x.places(), 3);
        Check.row("three places", x, 3);
        SealedBonds y = backAndForth(4, "q1");
        y.near();
        Check.row("told before", y, 1);
        Check.due("three don't do", y.places(), -2);
        Check.row("nothing told", y, 1);
        SealedBonds z = backAndForth(4, "q2");
        Check.due("to five places", z.places(), 3);
        Check.row("to five places", z, 3);
        SealedBonds k = backAndForth(2, "q2;k1*1");
        Check.due("kept places come with places", k.places(), 2);
        Check.row("kept places come with places", k, 2);
    }

    private static void placesThatDoNotDo() {
        SealedBonds x = unsettled();
        Check.choice(x, 0, "x0|2;r-n");
        Check.choice(x, 1, "x1|2;r+n");
        Check.due("nothing stands", x.all(), 0);
        Check.due("eight are enough already", x.places(), -2);
        Check.choice(x, 0, "q8;x0|2;r-n");
        Check.choice(x, 1, "q999;x1|2;r+n");
        Check.due("more than eight", x.places(), -2);
        Check.choice(x, 0, "q1;r-n");
        Check.due("the one that can have more", x.places(), 1);
        Check.row("the one that can have more", x, 1, 0, 0, 0);
    }
}
