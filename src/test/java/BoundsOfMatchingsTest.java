/** The bounds of promises 16 to 22: judge, offer, all, best, steps, near and places. */
public final class BoundsOfMatchingsTest {
    public static void main(String[] args) {
        judgeInItsOrder();
        judgeSetsOfBonds();
        judgeNoMatching();
        judgeNotFree();
        judgeWhatIsRather();
        judgeFirstOfficeLeastSet();
        judgeSetsWithoutCouples();
        judgeFirstCoupleFirstPair();
        judgePairsAtOneOffice();
        judgeOnlyBetterPairs();
        offerRounds();
        offerAllEverOffered();
        offerHeldTwice();
        allFromNoneToFortyAndMore();
        allAscending();
        allAnew();
        fewerThanBefore();
        bestAndWorst();
        bestOfMany();
        bestOfCouples();
        bestWithoutOne();
        stepsBetween();
        stepsOfOthers();
        nearOfNone();
        nearCounts();
        nearFirstByBits();
        placesFromNoneToThree();
        placesInSeveralOffices();
        placesInAllOffices();
        placesEightAtMost();
        placesWithAChoice();
        placesFirstRow();
        Check.close("BoundsOfMatchingsTest");
    }

    // ---- judge

    /** Promise 16: the answers 1 to 4 are asked in their order. */
    private static void judgeInItsOrder() {
        SealedBonds x = Check.market(4, 2, Check.b(0, 0), Check.b(0, 1), Check.b(1, 0), Check.b(2, 1), Check.b(3, 1));
        x.couple(2, 3);
        x.pair(0, 3, -1);
        x.list(2);
        Check.choice(x, 0, "q1");
        Check.choice(x, 1, "q1");
        Check.due("no MATCHING, and nothing of it listed", x.judge(3), 1);
        Check.due("not FREE, and a set would break it", x.judge(1), 2);
        Check.due("a set breaks it, and a COUPLE", x.judge(0), 3);
        Check.row("a set breaks it, and a COUPLE", x, 0, 4);
        Check.due("a COUPLE breaks it", x.judge(4), 4);
        Check.row("a COUPLE breaks it", x, 0, 0);
        Check.due("it STANDS", x.judge(12), 0);
        Check.row("told by the one before", x, 0, 0);
    }

    /** Promise 16: "NONE: not a set of BONDS that there are." */
    private static void judgeSetsOfBonds() {
        SealedBonds x = Check.market(3, 1, Check.b(0, 0), Check.b(1, 0), Check.b(2, 0));
        Check.lists(x, 0, 1, 2);
        Check.choice(x, 0, "q3");
        Check.due("all three", x.judge(7), 0);
        Check.due("a fourth", x.judge(8), -1);
        Check.due("a fourth with them", x.judge(15), -1);
        Check.due("below 0", x.judge(-1), -1);
        Check.due("the least", x.judge(Integer.MIN_VALUE), -1);
        Check.due("the greatest", x.judge(Integer.MAX_VALUE), -1);
        x.bond(0, 0, 0, 0, 0);
        Check.due("a fourth that is there now", x.judge(8), 2);
        Check.due("two of one then", x.judge(15), 1);
    }

    /** Terms 3: "A MATCHING: a set of BONDS, at most one of each PERSON." */
    private static void judgeNoMatching() {
        SealedBonds x = Check.market(7, 4, Check.b(6, 0), Check.b(6, 3), Check.b(0, 1), Check.b(0, 1));
        Check.due("two of the last PERSON at two OFFICES", x.judge(3), 1);
        Check.due("two of the first at one OFFICE", x.judge(12), 1);
        Check.due("one of each is a MATCHING", x.judge(5), 2);
        Check.due("none is one", x.judge(0), 0);
        x.couple(0, 6);
        Check.due("two of one of a COUPLE", x.judge(3), 1);
        Check.due("one of each of a COUPLE", x.judge(5), 2);
    }

    /** Terms 3: "FREE, if all PEOPLE have listed .., COUPLES have a PAIR .., or nothing, and each OFFICE would take ..". */
    private static void judgeNotFree() {
        SealedBonds x = Check.market(4, 2, Check.b(0, 0), Check.b(1, 0), Check.b(2, 1), Check.b(3, 1));
        x.couple(2, 3);
        Check.choice(x, 0, "q1");
        Check.choice(x, 1, "q1");
        Check.due("not listed", x.judge(1), 2);
        Check.lists(x, 0, 1);
        Check.due("listed", x.judge(1), 0);
        Check.due("more than are taken", x.judge(3), 2);
        Check.due("no PAIR of theirs", x.judge(5), 2);
        x.pair(0, 2, -1);
        Check.due("a PAIR of theirs", x.judge(5), 0);
        Check.due("the other's is none", x.judge(9), 2);
        x.pair(0, 2, 3);
        Check.due("both, but one place", x.judge(13), 2);
        Check.choice(x, 1, "q2");
        Check.due("both, with two places: FREE, though one alone is better", x.judge(13), 4);
        Check.choice(x, 1, "w2&0");
        Check.due("one whom they don't take alone", x.judge(5), 2);
    }

    /** Terms 3: "who would rather have it (than what he has, or nothing)". */
    private static void judgeWhatIsRather() {
        SealedBonds x = Check.market(1, 2, Check.b(0, 0), Check.b(0, 1), Check.b(0, 1));
        Check.choice(x, 0, "q1");
        Check.choice(x, 1, "q1");
        Check.lists(x, 1, 0);
        Check.due("than nothing", x.judge(0), 3);
        Check.row("than nothing", x, 0, 1);
        Check.due("than what is listed behind", x.judge(1), 3);
        Check.row("than what is listed behind", x, 1, 2);
        Check.due("not what is listed behind", x.judge(2), 0);
        x.list(2);
        Check.due("the last of the LIST is behind both", x.judge(2), 0);
        Check.due("both are ahead of the last", x.judge(4), 3);
        Check.row("both are ahead of the last", x, 0, 1);
    }

    /** Promise 16: "3 a set breaks it: the ROW: the first OFFICE, of its sets the least Z". */
    private static void judgeFirstOfficeLeastSet() {
        SealedBonds x = Check.market(4, 2, Check.b(0, 1), Check.b(1, 0), Check.b(2, 0), Check.b(3, 0));
        Check.lists(x, 0, 1, 2, 3);
        Check.choice(x, 0, "q2;r+n");
        Check.choice(x, 1, "q1");
        Check.due("the first OFFICE, not the first BOND", x.judge(0), 3);
        Check.row("the least of its sets", x, 0, 2);
        Check.due("what is had is in the set", x.judge(3), 3);
        Check.row("what is had is in the set", x, 0, 6);
        Check.due("one is driven out", x.judge(6), 3);
        Check.row("one is driven out", x, 0, 12);
        Check.due("the second OFFICE", x.judge(12), 3);
        Check.row("the second OFFICE", x, 1, 1);
        Check.due("none", x.judge(13), 0);
        Check.choice(x, 0, "w1&2;r+n;q2");
        Check.due("a set of two, where no one does alone", x.judge(9), 0);
        Check.due("what is had goes for two", x.judge(1), 3);
        Check.row("the least of all", x, 0, 6);
        Check.choice(x, 0, "w1&2;q2");
        Check.due("two drive out one", x.judge(9), 3);
        Check.row("two drive out one", x, 0, 6);
    }

    /** Terms 3: "each BOND in Z that is not in H being of a PERSON in no COUPLE". */
    private static void judgeSetsWithoutCouples() {
        SealedBonds x = Check.market(3, 1, Check.b(0, 0), Check.b(1, 0), Check.b(2, 0));
        Check.lists(x, 0, 1, 2);
        Check.choice(x, 0, "q2");
        x.couple(1, 0);
        Check.due("only the single one", x.judge(0), 3);
        Check.row("only the single one", x, 0, 4);
        Check.due("none of the COUPLE", x.judge(4), 0);
        x.pair(0, -1, 0);
        Check.due("the COUPLE does, by its PAIR", x.judge(4), 4);
        Check.due("what the COUPLE has is in the set", x.judge(1), 3);
        Check.row("what the COUPLE has is in the set", x, 0, 5);
    }

    /** Promise 16: "4 a COUPLE does: the ROW: the first one, the first PAIR." */
    private static void judgeFirstCoupleFirstPair() {
        SealedBonds x = Check.market(6, 3, Check.b(0, 0), Check.b(1, 1), Check.b(2, 0), Check.b(3, 1), Check.b(4, 0));
        x.couple(0, 1);
        x.couple(3, 2);
        x.pair(1, 3, 2);
        x.pair(1, -1, 2);
        x.pair(1, 3, -1);
        for (int o = 0; o < 3; o++) {
            Check.choice(x, o, "q1");
        }
        Check.due("the second COUPLE", x.judge(0), 4);
        Check.row("the second COUPLE", x, 1, 0);
        x.pair(0, 0, 1);
        Check.due("the first COUPLE", x.judge(0), 4);
        Check.row("the first COUPLE", x, 0, 0);
        Check.due("the first is content", x.judge(3), 0);
        Check.choice(x, 0, "q1;r+n");
        Check.due("of the second the second PAIR", x.judge(3), 4);
        Check.row("of the second the second PAIR", x, 1, 1);
        Check.choice(x, 0, "q0");
        Check.choice(x, 1, "q1;r+n");
        Check.due("the third PAIR", x.judge(0), 4);
        Check.row("the third PAIR", x, 1, 2);
    }

    /** Terms 3: "(both are offered at once, if it is one OFFICE; then both must be taken)". */
    private static void judgePairsAtOneOffice() {
        SealedBonds x = Check.market(3, 1, Check.b(0, 0), Check.b(1, 0), Check.b(2, 0));
        x.couple(0, 1);
        x.pair(0, 0, 1);
        Check.choice(x, 0, "q2");
        Check.due("both are taken", x.judge(0), 4);
        Check.choice(x, 0, "q1");
        Check.due("one is taken", x.judge(0), 0);
        Check.choice(x, 0, "w0&1");
        Check.due("neither alone, both at once", x.judge(0), 4);
        Check.choice(x, 0, "x0|1");
        Check.due("each alone, not both", x.judge(0), 0);
        x.list(2);
        Check.choice(x, 0, "q2");
        Check.due("they drive out a third", x.judge(4), 4);
        Check.choice(x, 0, "q2;r+n");
        Check.due("a third is ahead of one of them", x.judge(4), 0);
        Check.choice(x, 0, "q3;r+n");
        Check.due("room for all", x.judge(4), 4);
        Check.row("room for all", x, 0, 0);
    }

    /** Terms 3: "one with a PAIR better than what they have", "of what it has without the COUPLE's BONDS". */
    private static void judgeOnlyBetterPairs() {
        SealedBonds x = Check.market(2, 2, Check.b(0, 0), Check.b(0, 0), Check.b(1, 1), Check.b(1, 0));
        x.couple(0, 1);
        x.pair(0, 1, 2);
        x.pair(0, 0, 2);
        x.pair(0, 0, -1);
        Check.choice(x, 0, "q1");
        Check.choice(x, 1, "q1");
        Check.due("the best", x.judge(6), 0);
        Check.due("the second: its own BOND makes room", x.judge(5), 4);
        Check.row("the second: its own BOND makes room", x, 0, 0);
        Check.choice(x, 0, "c9");
        Check.due("the OFFICE pays for none", x.judge(0), 0);
        Check.choice(x, 0, "q1;w1&0");
        Check.due("the OFFICE takes neither alone", x.judge(0), 0);
        SealedBonds y = Check.market(2, 1, Check.b(0, 0), Check.b(1, 0));
        y.couple(0, 1);
        y.pair(0, 0, -1);
        y.pair(0, -1, 1);
        Check.choice(y, 0, "q2");
        Check.due("the worse one is no reason", y.judge(1), 0);
        Check.due("the better one is", y.judge(2), 4);
        Check.row("the better one is", y, 0, 0);
    }

    // ---- offer

    /** Promise 17: "rounds in which somebody offered, BONDS offered". Terms 3: "a round in which nobody would offer". */
    private static void offerRounds() {
        SealedBonds x = Check.market(2, 2);
        Check.due("no BONDS", x.offer(), 0);
        Check.row("no BONDS", x, 0, 0);
        x.bond(0, 0, 0, 0, 0);
        x.bond(0, 1, 0, 0, 0);
        x.bond(1, 1, 0, 0, 0);
        Check.due("no LISTS", x.offer(), 0);
        Check.row("no LISTS", x, 0, 0);
        x.list(0);
        Check.due("refused by one without a text", x.offer(), 0);
        Check.row("refused by one without a text", x, 1, 1);
        x.list(1);
        Check.row("the former ROW", x, 1, 1);
        Check.due("refused by both", x.offer(), 0);
        Check.row("refused by both", x, 2, 2);
        Check.choice(x, 1, "q1;r+n");
        Check.due("held by the second", x.offer(), 2);
        Check.row("held by the second", x, 2, 2);
        x.list(2);
        Check.due("driven out, and no other BOND", x.offer(), 4);
        Check.row("driven out, and no other BOND", x, 2, 3);
        Check.choice(x, 0, "q1");
        Check.due("both hold at once", x.offer(), 5);
        Check.row("both hold at once", x, 1, 2);
    }

    /** Terms 3: "each OFFICE holds what it TAKES of all that were ever offered to it". */
    private static void offerAllEverOffered() {
        SealedBonds x = Check.market(2, 2, Check.b(0, 0), Check.b(1, 1), Check.b(1, 0));
        Check.lists(x, 0, 1, 2);
        Check.choice(x, 0, "w0&1");
        Check.due("refused at first, held when the other comes", x.offer(), 5);
        Check.row("refused at first, held when the other comes", x, 2, 3);
        x.clear(1);
        Check.due("the other does not come", x.offer(), 0);
        Check.row("the other does not come", x, 1, 1);
    }

    /** Terms 3: "If a PERSON's BONDS are held twice then, there is no outcome." It is asked at the end alone. */
    private static void offerHeldTwice() {
        SealedBonds x = Check.market(3, 3, Check.b(0, 0), Check.b(0, 1), Check.b(1, 0), Check.b(2, 1));
        int[] idle = new int[5];
        for (int i = 0; i < 5; i++) {
            idle[i] = x.bond(i < 2 ? 1 : 2, 2, 0, 0, 0);
        }
        Check.lists(x, 0, 1, idle[0], idle[1], 2);
        Check.choice(x, 0, "w0&1");
        Check.choice(x, 1, "q1;r+n");
        x.law(0, 0);
        Check.row("told before", x, 1, 2, 0);
        Check.due("held twice at the end", x.offer(), -3);
        Check.row("nothing told", x, 1, 2, 0);
        Check.due("no outcome, no gain", x.gain(0), 0);
        Check.due("no outcome as it is", x.gone(0, 0), -3);
        Check.lists(x, idle[2], idle[3], idle[4], 3);
        Check.due("held twice for a while", x.offer(), 1 | 4 | 8);
        Check.row("held twice for a while", x, 4, 9);
        Check.due("no outcome without", x.gone(1, 3), -3);
        Check.due("no outcome without him", x.gone(0, 2), -3);
        Check.row("nothing told by that", x, 4, 9);
        Check.due("without the first there is one", x.gone(0, 0), 2);
        Check.row("without the first there is one", x, 8, 3);
    }

    // ---- all

    /** PEOPLE with so many BONDS each, listed the other way than the OFFICE's ORDER: each may have any of them. */
    private static SealedBonds product(int... bonds) {
        SealedBonds x = Check.market(bonds.length, 4);
        for (int p = 0; p < bonds.length; p++) {
            int first = x.count(2);
            for (int i = 0; i < bonds[p]; i++) {
                x.bond(p, p % 4, 0, 0, 0);
            }
            for (int i = bonds[p] - 1; i >= 0; i--) {
                x.list(first + i);
            }
        }
        for (int o = 0; o < 4; o++) {
            Check.choice(x, o, "q8");
        }
        return x;
    }

    /** Promise 18: "How many MATCHINGS STAND; the ROW: the first 40." */
    private static void allFromNoneToFortyAndMore() {
        SealedBonds none = NoneTest.unsettled();
        none.judge(0);
        Check.due("none", none.all(), 0);
        Check.row("none: an empty ROW", none);
        int[][] sizes = {{}, {1}, {2}, {3, 3}, {4, 3, 3}, {2, 4, 5}, {5, 3, 3}, {3, 4, 4},
            {3, 3, 3, 3, 3, 3, 2}};
        int[] due = {1, 1, 2, 9, 36, 40, 45, 48, 1458};
        for (int i = 0; i < due.length; i++) {
            SealedBonds x = product(sizes[i]);
            Check.due("all of " + due[i], x.all(), due[i]);
            Check.due("numbers of the ROW of " + due[i], x.count(5), Math.min(40, due[i]));
            Check.due("again", x.all(), due[i]);
            Check.due("the ROW again", x.count(5), Math.min(40, due[i]));
        }
        SealedBonds fewer = dearOrCheap(4, 3);
        Check.due("all of 39", fewer.all(), 39);
        Check.due("numbers of the ROW of 39", fewer.count(5), 39);
        SealedBonds forty = product(2, 4, 5);
        forty.all();
        Check.due("the fortieth is the last", forty.row(39), 2 | 8 << 2 | 16 << 6);
        SealedBonds more = product(5, 3, 3);
        more.all();
        Check.due("the fortieth of 45", more.row(39), 1 << 4 | 2 << 5 | 4 << 8);
    }

    /**
     * PERSON 0 has a dear BOND alone, or one of three cheap ones with one of PERSON 1's cheap ones; PERSON 2 any of its
     * own: so ALL are three times as many as PERSON 1 has cheap BONDS, and one, times as many as PERSON 2 has.
     */
    private static SealedBonds dearOrCheap(int cheap, int others) {
        SealedBonds x = Check.market(3, 2);
        for (int i = 0; i < 4 + cheap; i++) {
            x.bond(i < 4 ? 0 : 1, 0, i == 0 ? 20 : 10, 0, 0);
        }
        for (int i = 0; i < others; i++) {
            x.bond(2, 1, 0, 0, 0);
        }
        for (int b = x.count(2) - 1; b >= 0; b--) {
            x.list(b);
        }
        Check.choice(x, 0, "c20");
        Check.choice(x, 1, "q1");
        return x;
    }

    /** Terms 3: "ALL: MATCHINGS that STAND, by bits, ascending." */
    private static void allAscending() {
        SealedBonds x = product(3, 2);
        Check.due("all", x.all(), 6);
        Check.row("all", x, 1 | 8, 2 | 8, 4 | 8, 1 | 16, 2 | 16, 4 | 16);
        SealedBonds y = product(5, 3, 3);
        y.all();
        for (int i = 1; i < 40; i++) {
            Check.holds("row " + i + " ascends", y.row(i - 1) < y.row(i));
        }
    }

    /** What STANDS is known anew, whatever has changed since ALL were asked for. */
    private static void allAnew() {
        SealedBonds x = Check.market(3, 2, Check.b(0, 0), Check.b(1, 0));
        Check.choice(x, 0, "q1;r+n");
        told(x, "nothing listed", 0);
        x.list(0);
        told(x, "one listed", 1);
        x.list(1);
        told(x, "one ahead of it listed", 2);
        x.bond(1, 0, 0, 0, 0);
        told(x, "a BOND that is not listed", 2);
        x.clear(1);
        told(x, "the one ahead cleared", 1);
        x.list(2);
        told(x, "its other BOND listed", 4);
        x.couple(1, 2);
        told(x, "a COUPLE without PAIRS", 1);
        x.pair(0, 2, -1);
        told(x, "a COUPLE with a PAIR", 4);
        Check.choice(x, 0, "q1;r-n");
        told(x, "another text", 1);
        x.person(0);
        told(x, "another PERSON", 1);
        Check.due("who is left", x.left(), 2 | 4 | 8);
        x.office();
        Check.due("another OFFICE", x.same(), 7);
    }

    private static void told(SealedBonds x, String what, int due) {
        Check.due(what + ": all", x.all(), 1);
        Check.row(what, x, due);
        Check.due(what + ": best", x.best(0), due);
    }

    /** What stood before is nowhere left, when fewer STAND: not in bits, nor in chances, nor between two of ALL. */
    private static void fewerThanBefore() {
        SealedBonds x = product(3, 3);
        Check.due("nine", x.all(), 9);
        askOfAll(x, 4 | 32, 1 | 8, 2 | 16, 0, 4, 333);
        x.clear(0);
        Check.lists(x, 2, 1);
        Check.due("six", x.all(), 6);
        Check.row("six", x, 2 | 8, 4 | 8, 2 | 16, 4 | 16, 2 | 32, 4 | 32);
        askOfAll(x, 4 | 32, 2 | 8, 4 | 16, 0, 3, 500);
        x.clear(1);
        Check.due("two", x.all(), 2);
        Check.row("two", x, 2, 4);
        askOfAll(x, 4, 2, 4, 2, 1, 500);
        x.clear(0);
        Check.due("one", x.all(), 1);
        Check.row("one", x, 0);
        askOfAll(x, 0, 0, 0, 3, 0, 0);
        for (int b = 0; b < 6; b++) {
            Check.due("never: BOND " + b, x.lot(b), 0);
            Check.row("never: BOND " + b, x, 0, 1);
        }
        SealedBonds fork = MatchingTest.fork();
        Check.due("by way of the worst", fork.steps(4, 10), 2);
        fork.clear(1);
        Check.lists(fork, 2, 1);
        Check.due("the worst is gone", fork.all(), 2);
        Check.due("no way by it", fork.steps(4, 10), -2);
        Check.due("no way back", fork.steps(10, 4), -2);
        Check.due("none is the best", fork.best(0), -2);
        Check.due("none is the worst", fork.best(1), -2);
    }

    private static void askOfAll(SealedBonds x, int best, int worst, int mean, int left, int steps, int lot) {
        Check.due("best of " + x.all(), x.best(0), best);
        Check.due("worst of " + x.all(), x.best(1), worst);
        Check.due("mean of " + x.all(), x.mean(), mean);
        Check.due("left of " + x.all(), x.left(), left);
        Check.due("steps in " + x.all(), x.steps(worst, best), steps);
        Check.due("steps back in " + x.all(), x.steps(best, worst), steps);
        Check.due("chance of BOND 2 in " + x.all(), x.lot(2), lot);
    }

    // ---- best and steps

    /** Promise 19: "the one best FOR PEOPLE (side 0 ..), worst FOR PEOPLE (1 ..)". */
    private static void bestAndWorst() {
        SealedBonds one = product(1, 1);
        Check.due("of one the best", one.best(0), 3);
        Check.due("of one the worst", one.best(1), 3);
        SealedBonds x = product(2, 3);
        Check.due("the best", x.best(0), 2 | 16);
        Check.due("the worst", x.best(1), 1 | 4);
        Check.due("another side", x.best(2), -1);
        Check.due("side -1", x.best(-1), -1);
        Check.due("side least", x.best(Integer.MIN_VALUE), -1);
        Check.due("side greatest", x.best(Integer.MAX_VALUE), -1);
        // The LIST turned round: what was the best is the worst then.
        x.clear(0);
        Check.lists(x, 0, 1);
        Check.due("the best alone is left of the first's", x.all(), 3);
        Check.due("the best then", x.best(0), 1 | 16);
        Check.due("the worst then", x.best(1), 1 | 4);
    }

    /** More than the ROW holds, and the longest LISTS, of the last PEOPLE too. */
    private static void bestOfMany() {
        SealedBonds x = product(1, 1, 5, 5, 5);
        Check.due("all", x.all(), 125);
        int best = 3 | 16 << 2 | 16 << 7 | 16 << 12;
        int worst = 3 | 1 << 2 | 1 << 7 | 1 << 12;
        Check.due("the best of 125", x.best(0), best);
        Check.due("the worst of 125", x.best(1), worst);
        Check.due("steps across", x.steps(best, worst), 12);
        Check.due("steps aside", x.steps(3 | 16 << 2 | 1 << 7 | 2 << 12, 3 | 1 << 2 | 16 << 7 | 2 << 12), 8);
        Check.due("the last by bits", x.lot(16), 200);
        Check.due("in the midst", x.mean(), 3 | 4 << 2 | 4 << 7 | 4 << 12);
        Check.due("nobody is left", x.left(), 0);
        Check.due("the same", x.same(), 2);
        SealedBonds y = product(1, 1, 1, 1, 1, 5, 5);
        Check.due("the best of the last two", y.best(0), 31 | 16 << 5 | 16 << 10);
        Check.due("the worst of the last two", y.best(1), 31 | 1 << 5 | 1 << 10);
        Check.due("steps of the last two", y.steps(31 | 16 << 5 | 1 << 10, 31 | 1 << 5 | 16 << 10), 8);
    }

    /** Terms 3: "COUPLES by theirs together". */
    private static void bestOfCouples() {
        SealedBonds couple = Check.market(3, 1, Check.b(0, 0), Check.b(1, 0), Check.b(2, 0));
        couple.couple(0, 1);
        couple.pair(0, 0, 1);
        couple.pair(0, 0, -1);
        couple.list(2);
        Check.choice(couple, 0, "q3");
        Check.due("a COUPLE has its best", couple.best(0), 7);
        // Both COUPLES have a PAIR, if one single PERSON comes to their OFFICE: all together, or nobody.
        SealedBonds x = Check.market(5, 1, Check.b(0, 0), Check.b(1, 0), Check.b(2, 0), Check.b(3, 0), Check.b(4, 0));
        x.couple(0, 1);
        x.couple(2, 3);
        x.pair(0, 0, 1);
        x.pair(1, -1, 3);
        x.pair(1, 2, -1);
        x.list(4);
        Check.choice(x, 0, "w0&4;w3&4;x2|4");
        Check.due("all", x.all(), 2);
        Check.row("all", x, 4, 27);
        Check.due("better for all", x.best(0), 27);
        Check.due("worse for all", x.best(1), 4);
        Check.due("one step", x.steps(4, 27), 1);
        x.clear(4);
        Check.due("without the single one", x.all(), 1);
        Check.due("the second PAIR is the best", x.best(0), 4);
        pairsBehindOthers();
        couplesAlone();
    }

    /** A COUPLE has its last PAIR, or nothing, behind that: the first COUPLE, or the second. */
    private static void pairsBehindOthers() {
        for (int which = 0; which < 2; which++) {
            SealedBonds x = Check.market(6, 2, Check.b(0, 0), Check.b(1, 0), Check.b(3, 1), Check.b(3, 1), Check.b(3, 1));
            if (which == 1) {
                x.couple(4, 5);
            }
            x.couple(1, 3);
            for (int idle = 2; idle < 5; idle++) {
                x.pair(which, -1, idle);
            }
            x.pair(which, 1, -1);
            if (which == 0) {
                x.couple(4, 5);
            }
            x.list(0);
            Check.choice(x, 0, "w0&1");
            Check.due("COUPLE " + which + ": both or neither", x.all(), 2);
            Check.row("COUPLE " + which + ": both or neither", x, 0, 3);
            Check.due("COUPLE " + which + ": both is better", x.best(0), 3);
            Check.due("COUPLE " + which + ": neither is worse", x.best(1), 0);
            Check.due("COUPLE " + which + ": one step", x.steps(3, 0), 1);
        }
    }

    /** Only COUPLES tell two MATCHINGS apart: both the same way, or each its own. */
    private static void couplesAlone() {
        SealedBonds agreed = Check.market(4, 1, Check.b(0, 0), Check.b(2, 0));
        agreed.couple(0, 1);
        agreed.couple(3, 2);
        agreed.pair(0, 0, -1);
        agreed.pair(1, -1, 1);
        Check.choice(agreed, 0, "w0&2");
        Check.due("together or neither", agreed.all(), 2);
        Check.row("together or neither", agreed, 0, 3);
        Check.due("together is better for both", agreed.best(0), 3);
        Check.due("neither is worse for both", agreed.best(1), 0);
        Check.due("one step", agreed.steps(0, 3), 1);
        SealedBonds other = Check.market(4, 2, Check.b(0, 0), Check.b(1, 1), Check.b(2, 0), Check.b(3, 1));
        other.couple(0, 1);
        other.couple(2, 3);
        other.pair(0, 0, 1);
        other.pair(1, 2, 3);
        Check.choice(other, 0, "q1");
        Check.choice(other, 1, "q1;r+n");
        Check.due("the one or the other", other.all(), 2);
        Check.row("the one or the other", other, 3, 12);
        Check.due("none is better for both", other.best(0), -2);
        Check.due("none is worse for both", other.best(1), -2);
        Check.due("no way", other.steps(3, 12), -2);
    }

    /** Promise 19: "-2: there is none such". */
    private static void bestWithoutOne() {
        SealedBonds none = NoneTest.unsettled();
        Check.due("nothing STANDS: no best", none.best(0), -2);
        Check.due("nothing STANDS: no worst", none.best(1), -2);
        Check.due("nothing STANDS: another side", none.best(2), -1);
        SealedBonds fork = MatchingTest.fork();
        Check.due("two of three are not worse than one another", fork.best(0), -2);
        Check.due("all others are better than the worst", fork.best(1), 1);
        Check.due("two apart: no best", apart().best(0), -2);
        Check.due("two apart: no worst", apart().best(1), -2);
    }

    /** BONDS 1 alone, or 0 and 2: PERSON 0 and PERSON 1 don't agree which is better. */
    private static SealedBonds apart() {
        SealedBonds x = Check.market(2, 1);
        x.bond(1, 0, 10, 0, 0);
        x.bond(1, 0, 20, 0, 0);
        x.bond(0, 0, 10, 0, 0);
        Check.lists(x, 1, 2, 0);
        Check.choice(x, 0, "c20");
        return x;
    }

    /** Promise 20: "The fewest steps .., each step to one of ALL next to it .., and none of ALL between". */
    private static void stepsBetween() {
        SealedBonds x = product(5);
        for (int i = 0; i < 5; i++) {
            for (int j = 0; j < 5; j++) {
                Check.due("from " + i + " to " + j, x.steps(1 << i, 1 << j), Math.abs(i - j));
            }
        }
        SealedBonds grid = product(3, 3);
        Check.due("across", grid.steps(1 | 8, 4 | 32), 4);
        Check.due("down and up", grid.steps(4 | 8, 1 | 32), 4);
        Check.due("aside", grid.steps(2 | 8, 1 | 16), 2);
        Check.due("one step", grid.steps(2 | 16, 4 | 16), 1);
        Check.due("none", grid.steps(2 | 16, 2 | 16), 0);
        Check.due("by way of the worst of a fork", MatchingTest.fork().steps(10, 4), 2);
    }

    /** Promise 20: "-2: no way; NONE: one does not STAND." */
    private static void stepsOfOthers() {
        SealedBonds x = product(2, 2);
        int[][] others = {{0, 5}, {5, 0}, {3, 5}, {5, 3}, {16, 5}, {5, 16}, {-1, 5}, {5, Integer.MIN_VALUE}, {0, 0},
            {-1, -1}};
        for (int[] a : others) {
            Check.due("steps(" + a[0] + ", " + a[1] + ")", x.steps(a[0], a[1]), -1);
        }
        SealedBonds apart = apart();
        Check.due("neither is better", apart.steps(2, 5), -2);
        Check.due("nor the other way", apart.steps(5, 2), -2);
        Check.due("but to itself", apart.steps(5, 5), 0);
        Check.due("one that does not STAND", apart.steps(2, 4), -1);
        twoIslands();
    }

    /** Two apart, each with what another PERSON has, best or worst: a way is there or not, whatever was asked before. */
    private static void twoIslands() {
        SealedBonds x = Check.market(3, 2);
        x.bond(1, 0, 10, 0, 0);
        x.bond(1, 0, 20, 0, 0);
        x.bond(0, 0, 10, 0, 0);
        x.bond(2, 1, 0, 0, 0);
        x.bond(2, 1, 0, 0, 0);
        Check.lists(x, 1, 2, 0, 4, 3);
        Check.choice(x, 0, "c20");
        Check.choice(x, 1, "q1");
        int[] four = {2 | 8, 2 | 16, 5 | 8, 5 | 16};
        Check.due("four STAND", x.all(), 4);
        for (int times = 0; times < 16; times++) {
            int from = times * 7 % 16 / 4;
            int to = times * 7 % 4;
            Check.due("from " + four[from] + " to " + four[to], x.steps(four[from], four[to]),
                    from / 2 != to / 2 ? -2 : from == to ? 0 : 1);
        }
    }

    // ---- near

    /** Promise 21, where something STANDS, or nothing can be. */
    private static void nearOfNone() {
        SealedBonds x = new SealedBonds();
        Check.due("nothing there", x.near(), 0);
        Check.row("nothing there", x, 0);
        SealedBonds y = product(3, 2);
        Check.due("what STANDS has none", y.near(), 0);
        Check.row("the first that STANDS", y, 1 | 8);
        SealedBonds z = Check.market(2, 1, Check.b(0, 0), Check.b(1, 0));
        Check.lists(z, 0, 1);
        Check.choice(z, 0, "w0&1");
        Check.due("no BOND breaks by itself", z.near(), 0);
        Check.row("no BOND breaks by itself", z, 0);
        Check.due("though two together do", z.judge(0), 3);
        SealedBonds none = together();
        Check.due("nothing STANDS", none.all(), 0);
        Check.due("but no BOND breaks by itself", none.near(), 0);
        Check.row("but no BOND breaks by itself", none, 1);
    }

    /** Nothing STANDS: what no BOND breaks is broken by both PEOPLE together, and that by a BOND of one of them. */
    private static SealedBonds together() {
        SealedBonds x = Check.market(2, 2);
        together(x, 0);
        return x;
    }

    /** The same with that PERSON and the next one, at OFFICES 0 and 1. */
    private static void together(SealedBonds x, int person) {
        int first = x.bond(person + 1, 0, 0, 0, 0);
        x.bond(person, 0, 0, 0, 0);
        x.bond(person + 1, 1, 0, 0, 0);
        x.bond(person, 1, 0, 0, 0);
        Check.lists(x, first + 1, first + 3, first + 2, first);
        Check.choice(x, 0, "q1;r+n");
        Check.choice(x, 1, "q2;r+n;w" + person + "&" + (person + 1));
    }

    /** Promise 21: "the least number of COUPLES that break and of BONDS that break by themselves". */
    private static void nearCounts() {
        SealedBonds x = NoneTest.unsettled();
        Check.due("a BOND, or a COUPLE", x.near(), 1);
        Check.row("the BOND: the first by bits", x, 3);
        // Another BOND of the same PERSON at the same OFFICE: two BONDS break that one now, one COUPLE the next.
        x.bond(2, 1, 0, 0, 0);
        x.list(4);
        Check.due("each BOND counts", x.near(), 1);
        Check.row("a COUPLE", x, 4);
        x.clear(2);
        Check.lists(x, 2, 3);
        Check.due("what is not listed does not count", x.near(), 1);
        Check.row("what is not listed does not count", x, 3);
        x.couple(2, 3);
        Check.due("a COUPLE's own LISTS do not count", x.near(), 0);
        Check.row("a COUPLE's own LISTS do not count", x, 3);
        // The same with the single PERSON's BONDS ahead of the COUPLE's.
        SealedBonds y = Check.market(3, 2, Check.b(2, 1), Check.b(2, 0), Check.b(0, 0), Check.b(1, 1));
        y.couple(0, 1);
        y.pair(0, 2, 3);
        Check.lists(y, 1, 0);
        Check.choice(y, 0, "q1;r-n");
        Check.choice(y, 1, "q1;r+n");
        Check.due("the first BOND counts too", y.near(), 1);
        Check.row("a BOND that is had does not", y, 1);
        y.judge(12);
        Check.row("the first BOND breaks the PAIR", y, 1, 1);
    }

    /** Promise 21: "the first such MATCHING by bits". Only FREE ones are such. */
    private static void nearFirstByBits() {
        SealedBonds x = Check.market(2, 1, Check.b(0, 0), Check.b(1, 0), Check.b(0, 0));
        Check.lists(x, 0, 1, 2);
        Check.choice(x, 0, "q1;r+n");
        Check.due("near", x.near(), 0);
        Check.row("near", x, 2);
        x.clear(1);
        Check.due("near without it", x.near(), 0);
        Check.row("near without it", x, 1);
        x.clear(0);
        x.list(2);
        Check.due("what is not listed is not FREE", x.near(), 0);
        Check.row("what is not listed is not FREE", x, 4);
    }

    // ---- places

    /** A COUPLE that is unsettled, unless there are places for all single PEOPLE (from 2 on) and one more. */
    private static SealedBonds crowd(int singles, String text) {
        SealedBonds x = Check.market(singles + 2, 1);
        crowd(x, 0, 0, 2, singles);
        Check.holds(text, Check.choice(x, 0, text) > 0);
        return x;
    }

    private static void crowd(SealedBonds x, int office, int couple, int from, int singles) {
        int person = 2 * couple;
        int first = x.bond(person, office, 0, 0, 0);
        for (int i = 0; i < singles; i++) {
            x.list(x.bond(from + i, office, 0, 0, 0));
        }
        int last = x.bond(person, office, 0, 0, 0);
        x.couple(person, person + 1);
        x.pair(couple, last, -1);
        x.pair(couple, first, -1);
    }

    private static void places(String text, int singles, int due) {
        SealedBonds x = crowd(singles, text);
        x.near();
        int near = x.row(0);
        Check.due(text + ", " + singles + " singles: places", x.places(), due);
        if (due < 0) {
            Check.row(text + ": nothing told", x, near);
        } else {
            Check.row(text + ": of each OFFICE", x, due);
        }
    }

    /** Promise 22: "The fewest places more (0 .. 3 in all ..)", "-2: three don't do." */
    private static void placesFromNoneToThree() {
        for (int singles = 1; singles <= 5; singles++) {
            for (int q = 1; q <= 7; q++) {
                int more = Math.max(0, singles + 1 - q);
                places("q" + q, singles, more > 3 ? -2 : more);
            }
        }
        SealedBonds x = crowd(2, "q1");
        Check.due("two places", x.places(), 2);
        Check.due("nothing has changed by that", x.places(), 2);
        Check.due("nothing STANDS still", x.all(), 0);
        Check.due("one is taken still", x.take(0, 15), 1);
        Check.choice(x, 0, "q2");
        Check.due("one place", x.places(), 1);
        Check.choice(x, 0, "q3");
        Check.due("no place", x.places(), 0);
        Check.due("it STANDS", x.all(), 1);
        placesWithEightBonds();
    }

    /** An OFFICE with as many BONDS as there may be, and as many places more. */
    private static void placesWithEightBonds() {
        int[] due = {0, -2, -2, 3, 2, 1, 0, 0, 0};
        for (int q = 0; q <= 8; q++) {
            SealedBonds x = crowd(5, "q" + q);
            Check.due("the eighth BOND", x.bond(6, 0, 0, 0, 0), 7);
            Check.due("eight BONDS, q" + q, x.places(), due[q]);
            Check.due("a place for each who is listed, q" + q, x.all(), due[q] == 0 ? 1 : 0);
        }
        SealedBonds x = Check.market(5, 4);
        crowd(x, 1, 0, 2, 1);
        Check.choice(x, 1, "q1;x0|2");
        for (int i = 0; i < 8; i++) {
            x.list(x.bond(3 + i / 5, 0, 0, 0, 0));
        }
        Check.choice(x, 0, "q1");
        x.near();
        int near = x.row(0);
        Check.due("more places where there are not more PEOPLE", x.places(), -2);
        Check.row("more places where there are not more PEOPLE", x, near);
    }

    /** Promise 22: "at some OFFICES", "the ROW: of each OFFICE how many more". */
    private static void placesInSeveralOffices() {
        int[][] singles = {{1, 2}, {2, 1}, {1, 1}, {0, 3}, {3, 0}, {0, 0}};
        int[][] where = {{0, 1}, {0, 3}, {2, 3}, {1, 2}, {3, 0}};
        for (int[] s : singles) {
            for (int[] w : where) {
                SealedBonds x = Check.market(7, 4);
                crowd(x, w[0], 0, 4, s[0]);
                crowd(x, w[1], 1, 4 + s[0], s[1]);
                int[] due = new int[4];
                due[w[0]] = s[0];
                due[w[1]] = s[1];
                for (int o = 0; o < 4; o++) {
                    Check.choice(x, o, "q1");
                }
                Check.due("places of " + s[0] + " and " + s[1], x.places(), s[0] + s[1]);
                Check.row("places of " + s[0] + " and " + s[1], x, due);
            }
        }
        SealedBonds x = together();
        Check.due("what STANDS is asked for, not what is near", x.places(), 1);
        Check.row("what STANDS is asked for, not what is near", x, 1, 0);
    }

    /** Promise 22: "0 .. 3 in all": of all OFFICES together, though none of them needs more than three. */
    private static void placesInAllOffices() {
        for (int singles = 0; singles <= 3; singles++) {
            SealedBonds x = Check.market(7, 4);
            crowd(x, 3, 0, 2, singles);
            together(x, 5);
            Check.choice(x, 3, "q1");
            x.near();
            int near = x.row(0);
            Check.due("one, and " + singles + " elsewhere", x.places(), singles < 3 ? singles + 1 : -2);
            if (singles < 3) {
                Check.row("one, and " + singles + " elsewhere", x, 1, 0, 0, singles);
            } else {
                Check.row("three don't do", x, near);
            }
            Check.choice(x, 0, "q2;r+n");
            Check.due(singles + " elsewhere", x.places(), singles);
            Check.row(singles + " elsewhere", x, 0, 0, 0, singles);
        }
    }

    /** Promise 22: "what q tells, 8 at most in the end". It can be seen by KEPT places alone. */
    private static void placesEightAtMost() {
        places("q7;k1*6", 1, 1);
        places("q7;k1*6", 2, -2);
        places("q8;k1*7", 1, -2);
        places("k1*7", 1, -2);
        places("k1*6", 1, 0);
        places("q6;k1*5", 1, 1);
        places("q6;k1*5", 2, 2);
        places("q6;k1*5", 3, -2);
        places("q5;k1*4", 3, 3);
        places("q5;k1*4", 4, -2);
        places("q9;k1*8", 1, -2);
        places("q9;k1*7", 1, 0);
        places("q999;k1*9", 5, 0);
    }

    /** Promise 22: "at some OFFICES that have a CHOICE". */
    private static void placesWithAChoice() {
        SealedBonds x = Check.market(4, 2);
        crowd(x, 1, 0, 2, 1);
        x.clear(2);
        x.list(x.bond(2, 0, 0, 0, 0));
        x.list(1);
        Check.choice(x, 1, "q1");
        Check.due("the OFFICE without a text gets none", x.places(), 1);
        Check.row("the OFFICE without a text gets none", x, 0, 1);
        Check.choice(x, 0, "q0");
        Check.due("either would do", x.places(), 1);
        Check.row("the first row of both", x, 0, 1);
        Check.choice(x, 1, "q1;x0|2");
        Check.due("the one with a text does", x.places(), 1);
        Check.row("the one with a text does", x, 1, 0);
        SealedBonds y = Check.market(4, 2);
        crowd(y, 1, 0, 2, 1);
        y.clear(2);
        y.list(y.bond(2, 0, 0, 0, 0));
        y.list(1);
        Check.choice(y, 1, "q1;x0|2");
        Check.due("without a text it does not", y.places(), -2);
    }

    /** Promise 22: "(of as few the first row of numbers)". */
    private static void placesFirstRow() {
        SealedBonds x = NoneTest.unsettled();
        Check.due("one place at either", x.places(), 1);
        Check.row("the first row", x, 0, 1, 0, 0);
        Check.choice(x, 1, "q1;r+n;x1|2");
        Check.due("one place at the first alone", x.places(), 1);
        Check.row("one place at the first alone", x, 1, 0, 0, 0);
    }
}
