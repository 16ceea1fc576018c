/** Promises 16 to 20: what STANDS, OFFERS, ALL, the best ones and the steps between. */
public final class MatchingTest {
    public static void main(String[] args) {
        judge();
        judgeSetsOfTwo();
        judgeCouples();
        offer();
        offerWithoutOutcome();
        all();
        best();
        steps();
        Check.close("MatchingTest");
    }

    private static void judge() {
        SealedBonds x = Check.market(2, 2, Check.b(0, 0), Check.b(0, 1), Check.b(1, 0), Check.b(1, 1));
        Check.lists(x, 0, 3, 2);
        Check.due("no text: nothing is taken", x.judge(1), 2);
        Check.due("no text: the empty one", x.judge(0), 0);
        Check.choice(x, 0, "q1;r+n");
        Check.choice(x, 1, "q1");
        Check.row("nothing told yet", x);
        Check.due("judge(-1)", x.judge(-1), -1);
        Check.due("judge(16)", x.judge(16), -1);
        Check.due("judge(least)", x.judge(Integer.MIN_VALUE), -1);
        Check.due("two of one", x.judge(3), 1);
        Check.due("not listed", x.judge(2), 2);
        Check.due("too many", x.judge(5), 2);
        Check.due("it stands", x.judge(9), 0);
        Check.row("still nothing told", x);
        Check.due("an empty place", x.judge(8), 3);
        Check.row("an empty place", x, 0, 1);
        Check.due("one who is ahead", x.judge(1), 3);
        Check.row("one who is ahead", x, 0, 4);
        Check.due("the first office of two", x.judge(0), 3);
        Check.row("the first office of two", x, 0, 1);
        Check.due("the second office", x.judge(4), 3);
        Check.row("the second office", x, 1, 8);
        Check.due("it stands", x.judge(9), 0);
        Check.row("the ROW is the one told last", x, 1, 8);
    }

    private static void judgeSetsOfTwo() {
        SealedBonds x = Check.market(3, 1, Check.b(0, 0), Check.b(1, 0), Check.b(2, 0));
        Check.lists(x, 0, 1, 2);
        Check.choice(x, 0, "q2;w0&1");
        Check.due("two together drive one out", x.judge(4), 3);
        Check.row("two together drive one out", x, 0, 3);
        x.clear(1);
        Check.due("one of them does not want it", x.judge(4), 0);
        Check.due("the place goes to the third", x.judge(0), 3);
        Check.row("the place goes to the third", x, 0, 4);
        SealedBonds y = Check.market(2, 1, Check.b(0, 0), Check.b(0, 0), Check.b(1, 0));
        Check.lists(y, 1, 0, 2);
        Check.choice(y, 0, "q2;r-n");
        Check.due("the office would not change", y.judge(5), 0);
        Check.due("the other bond of one person is no better for the office", y.judge(6), 0);
        y.clear(0);
        y.list(0);
        Check.due("what is not listed is not had", y.judge(6), 2);
    }

    private static void judgeCouples() {
        SealedBonds x = Check.market(3, 2, Check.b(0, 0), Check.b(1, 0), Check.b(2, 0), Check.b(1, 1));
        x.couple(0, 1);
        x.pair(0, 0, 1);
        x.pair(0, 0, -1);
        Check.lists(x, 0, 1, 3, 2);
        Check.choice(x, 0, "q1");
        Check.choice(x, 1, "q1");
        Check.due("both must be taken", x.judge(0), 3);
        Check.row("a single one comes first", x, 0, 4);
        Check.due("the second pair", x.judge(4), 4);
        Check.row("the second pair", x, 0, 1);
        Check.due("it stands", x.judge(1), 0);
        Check.due("their own lists do not matter", x.judge(8), 2);
        Check.due("half a pair", x.judge(2), 2);
        Check.choice(x, 0, "q2");
        Check.due("the first pair, at one office", x.judge(4), 4);
        Check.row("the first pair, at one office", x, 0, 0);
        Check.due("from the second pair to the first", x.judge(5), 4);
        Check.row("from the second pair to the first", x, 0, 0);
        Check.due("it stands", x.judge(3), 0);
        SealedBonds y = Check.market(2, 1, Check.b(0, 0), Check.b(1, 0));
        y.couple(0, 1);
        y.pair(0, -1, 1);
        y.pair(0, 0, -1);
        Check.choice(y, 0, "q1");
        Check.due("their own bonds make room", y.judge(1), 4);
        Check.row("their own bonds make room", y, 0, 0);
        Check.due("the better one stands", y.judge(2), 0);
    }

    private static void offer() {
        SealedBonds x = Check.market(3, 2, Check.b(0, 0), Check.b(1, 0), Check.b(1, 1), Check.b(2, 0), Check.b(2, 1));
        Check.lists(x, 0, 1, 2, 3, 4);
        Check.choice(x, 0, "q1");
        Check.choice(x, 1, "q1;r+n");
        Check.due("offers", x.offer(), 1 | 16);
        Check.row("offers", x, 2, 5);
        x.couple(0, 2);
        Check.due("couples offer nothing", x.offer(), 2);
        Check.row("couples offer nothing", x, 1, 1);
    }

    /** PERSON 0 and 1 at two OFFICES that want both or none of them. */
    private static void offerWithoutOutcome() {
        SealedBonds x = Check.market(2, 2, Check.b(0, 0), Check.b(1, 0), Check.b(0, 1), Check.b(1, 1));
        Check.lists(x, 3, 0, 1, 2);
        Check.choice(x, 0, "q2;w0&1");
        Check.choice(x, 1, "w0&1");
        x.judge(0);
        Check.row("told before", x, 0, 3);
        Check.due("held twice", x.offer(), -3);
        Check.row("held twice tells nothing", x, 0, 3);
        Check.due("no gain without an outcome", x.gain(0), 0);
        Check.due("gone without an outcome", x.gone(0, 0), -3);
        x.clear(0);
        Check.lists(x, 2);
        Check.due("taken back what was refused", x.offer(), 12);
        Check.row("taken back what was refused", x, 1, 2);
    }

    /** PEOPLE with two BONDS each, the dearer listed first, at OFFICES that want the cheaper: each choice stands. */
    static SealedBonds chains() {
        SealedBonds x = Check.market(7, 2);
        for (int p = 0; p < 7; p++) {
            x.bond(p, p / 4, 10, 0, 0);
            x.bond(p, p / 4, 20, 0, 0);
            Check.lists(x, 2 * p + 1, 2 * p);
        }
        Check.choice(x, 0, "r-p");
        Check.choice(x, 1, "r-p");
        return x;
    }

    private static void all() {
        SealedBonds x = chains();
        Check.due("all", x.all(), 128);
        int[] first = new int[40];
        for (int i = 0; i < 40; i++) {
            for (int p = 0; p < 7; p++) {
                first[i] |= 1 + (i >> p & 1) << 2 * p;
            }
        }
        Check.row("all", x, first);
        Check.due("best", x.best(0), 0b10101010101010);
        Check.due("worst", x.best(1), 0b01010101010101);
        Check.due("steps", x.steps(0b10101010101010, 0b01010101010101), 7);
        Check.due("steps", x.steps(0b10101010101010, 0b10101001101001), 2);
        Check.due("steps down and up", x.steps(0b10101010101001, 0b10101010100110), 2);
        x.clear(6);
        Check.due("known anew", x.all(), 64);
        Check.choice(x, 0, "q0");
        Check.due("known anew", x.all(), 4);
        Check.row("known anew", x, 0b010100000000, 0b011000000000, 0b100100000000, 0b101000000000);
        none();
    }

    private static void none() {
        SealedBonds x = NoneTest.unsettled();
        Check.due("none stands", x.all(), 0);
        Check.row("none stands", x);
        Check.due("no best", x.best(0), -2);
        Check.due("no worst", x.best(1), -2);
        Check.due("no steps", x.steps(0, 0), -1);
    }

    /** ALL: BOND 0 alone, BOND 2 alone, BONDS 1 and 3; the first is worse than both others. */
    static SealedBonds fork() {
        SealedBonds x = Check.market(2, 1);
        int[][] told = {{1, 20}, {1, 10}, {1, 20}, {0, 10}, {0, 10}};
        for (int[] t : told) {
            x.bond(t[0], 0, t[1], 0, 0);
        }
        Check.lists(x, 2, 1, 0, 3, 4);
        Check.choice(x, 0, "c20");
        return x;
    }

    private static void best() {
        SealedBonds x = fork();
        Check.due("all", x.all(), 3);
        Check.row("all", x, 1, 4, 10);
        Check.due("no best one", x.best(0), -2);
        Check.due("the worst one", x.best(1), 1);
        Check.due("best(2)", x.best(2), -1);
        Check.due("best(-1)", x.best(-1), -1);
        Check.row("nothing told", x, 1, 4, 10);
        SealedBonds y = NoneTest.unsettled();
        Check.due("another side is refused first", y.best(2), -1);
        SealedBonds z = Check.market(3, 1, Check.b(0, 0), Check.b(1, 0));
        z.couple(0, 1);
        Check.due("the only one is the best", z.best(0), 0);
        Check.due("and the worst", z.best(1), 0);
    }

    private static void steps() {
        SealedBonds x = fork();
        Check.due("by way of the worst", x.steps(4, 10), 2);
        Check.due("one step", x.steps(1, 10), 1);
        Check.due("no step", x.steps(4, 4), 0);
        Check.due("from none", x.steps(2, 4), -1);
        Check.due("to none", x.steps(4, 2), -1);
        Check.due("no set", x.steps(-1, 4), -1);
        SealedBonds y = Check.market(2, 1);
        y.bond(1, 0, 10, 0, 0);
        y.bond(1, 0, 20, 0, 0);
        y.bond(0, 0, 10, 0, 0);
        Check.lists(y, 1, 2, 0);
        Check.choice(y, 0, "c20");
        Check.due("two apart", y.all(), 2);
        Check.row("two apart", y, 2, 5);
        Check.due("no way", y.steps(2, 5), -2);
        Check.due("no best", y.best(0), -2);
        Check.due("no worst", y.best(1), -2);
        SealedBonds z = Check.market(1, 1);
        for (int i = 0; i < 4; i++) {
            z.bond(0, 0, i, 0, 0);
        }
        Check.lists(z, 3, 2, 1, 0);
        Check.choice(z, 0, "q1");
        Check.due("none between is passed over", z.steps(1, 8), 3);
        couplesRankTogether();
    }

    /** The COUPLE has BOND 1 and nothing, or nothing and nothing; so it does with PERSON 0. */
    private static void couplesRankTogether() {
        SealedBonds x = Check.market(3, 1, Check.b(0, 0), Check.b(1, 0));
        x.couple(1, 2);
        x.pair(0, 1, -1);
        Check.lists(x, 0);
        Check.choice(x, 0, "w0&1");
        Check.due("both or neither", x.all(), 2);
        Check.row("both or neither", x, 0, 3);
        Check.due("both is better", x.best(0), 3);
        Check.due("neither is worse", x.best(1), 0);
        Check.due("one step", x.steps(0, 3), 1);
    }
}
