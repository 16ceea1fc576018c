/** The bounds of promises 12 to 15: take, why, order and law. */
public final class BoundsOfChoicesTest {
    public static void main(String[] args) {
        takeLeavesOthersAside();
        takeOfNoSets();
        whyItDoes();
        whyTwoOfAPerson();
        whyTooMany();
        whyTooMuchPay();
        whyKeptPlaces();
        whyNeverBoth();
        whyElse();
        whyTheFirstOfThese();
        whyOnlyWhatIsAhead();
        whyOfOthers();
        orderFromNoughtOn();
        orderWithMoreBonds();
        lawsKept();
        lawFirstBreachOfFaith();
        lawFirstBreachOfUp();
        lawOneOfBoth();
        lawRow();
        lawOfOthers();
        Check.close("BoundsOfChoicesTest");
    }

    /** PEOPLE 0 .. with a BOND each at OFFICE 0, of the PAY told. */
    private static SealedBonds paid(String text, int... pay) {
        SealedBonds x = Check.market(pay.length, 2);
        for (int p = 0; p < pay.length; p++) {
            x.bond(p, 0, pay[p], 0, 0);
        }
        Check.holds(text, Check.choice(x, 0, text) > 0);
        return x;
    }

    /** Promise 12: "What an OFFICE TAKES of BONDS offered (those of others are left aside)". */
    private static void takeLeavesOthersAside() {
        SealedBonds x = Check.market(2, 3, Check.b(0, 0), Check.b(1, 1), Check.b(1, 0), Check.b(0, 1));
        Check.choice(x, 0, "q2");
        Check.choice(x, 1, "q1");
        Check.due("none offered", x.take(0, 0), 0);
        Check.due("of others alone", x.take(0, 10), 0);
        Check.due("of both", x.take(0, 15), 5);
        Check.due("the other OFFICE", x.take(1, 15), 2);
        Check.due("an OFFICE without BONDS", x.take(2, 15), 0);
    }

    /** Promise 12: "NONE: none such, not sets of BONDS that there are." */
    private static void takeOfNoSets() {
        SealedBonds x = paid("q2", 1, 1, 1);
        Check.due("the last OFFICE", x.take(1, 7), 0);
        Check.due("one behind it", x.take(2, 7), -1);
        Check.due("one ahead of the first", x.take(-1, 7), -1);
        Check.due("all BONDS", x.take(0, 7), 3);
        Check.due("one behind the last", x.take(0, 8), -1);
        Check.due("one behind the last, and others", x.take(0, 9), -1);
        Check.due("below nothing", x.take(0, -1), -1);
        Check.due("the highest bit", x.take(0, Integer.MIN_VALUE), -1);
        Check.due("an OFFICE without a text refuses too", x.take(1, 8), -1);
    }

    /** Promise 13: "0 it does". */
    private static void whyItDoes() {
        SealedBonds x = paid("q2;c3", 1, 2, 3);
        Check.due("the first", x.why(0, 7, 0), 0);
        Check.due("just within", x.why(0, 7, 1), 0);
        Check.due("alone", x.why(0, 4, 2), 0);
    }

    /** Promise 13: "1 the PERSON would have two". */
    private static void whyTwoOfAPerson() {
        SealedBonds x = Check.market(2, 1, Check.b(0, 0), Check.b(1, 0), Check.b(0, 0));
        Check.choice(x, 0, "q8");
        Check.due("two", x.why(0, 7, 2), 1);
        Check.due("one", x.why(0, 6, 2), 0);
        Check.choice(x, 0, "r+n");
        Check.due("two, behind another's", x.why(0, 7, 2), 1);
        Check.choice(x, 0, "c9");
        Check.due("the other one is not taken", x.why(0, 7, 2), 3);
    }

    /** Promise 13: "2 too many (q)". */
    private static void whyTooMany() {
        SealedBonds x = paid("q2", 1, 1, 1, 1);
        Check.due("the second", x.why(0, 15, 1), 0);
        Check.due("the third", x.why(0, 15, 2), 2);
        Check.due("the fourth", x.why(0, 15, 3), 2);
        Check.due("the second of two", x.why(0, 10, 3), 0);
        Check.choice(x, 0, "q0");
        Check.due("none at all", x.why(0, 1, 0), 2);
        Check.choice(x, 0, "q3;q1");
        Check.due("what is told last counts", x.why(0, 3, 1), 2);
        Check.choice(x, 0, "q2;w2&0;r-p");
        Check.due("as many as may be, with this one", x.why(0, 15, 1), 6);
    }

    /** Promise 13: "3 too much PAY (c)". */
    private static void whyTooMuchPay() {
        SealedBonds x = paid("c5", 2, 3, 1);
        Check.due("just as much", x.why(0, 3, 1), 0);
        Check.choice(x, 0, "c4");
        Check.due("one more", x.why(0, 3, 1), 3);
        Check.due("what is refused does not count", x.why(0, 7, 2), 0);
        Check.choice(x, 0, "c0");
        Check.due("no PAY at all", x.why(0, 4, 2), 3);
        Check.choice(x, 0, "c9;c1");
        Check.due("what is told last counts", x.why(0, 1, 0), 3);
        Check.choice(x, 0, "c5;x0|1");
        Check.due("just as much is not too much", x.why(0, 3, 1), 5);
    }

    /** KINDS 0 1 2 3 0 1 2, a BOND each. */
    private static SealedBonds kinds(String text) {
        SealedBonds x = new SealedBonds();
        x.office();
        for (int p = 0; p < 7; p++) {
            x.person(p % 4);
            x.bond(p, 0, 0, 0, 0);
        }
        Check.choice(x, 0, text);
        return x;
    }

    /** Promise 13: "4 KEPT places". */
    private static void whyKeptPlaces() {
        SealedBonds x = kinds("q3;k0*2");
        Check.due("taken", x.take(0, 127), 19);
        Check.due("the first of others", x.why(0, 127, 1), 0);
        Check.due("the second of others", x.why(0, 127, 2), 4);
        Check.due("one of that KIND", x.why(0, 127, 4), 0);
        Check.due("too many by then", x.why(0, 127, 5), 2);
        Check.due("kept, as long as none is there", x.why(0, 6, 2), 4);
        SealedBonds y = kinds("q2;k3*9");
        Check.due("0 at least", y.take(0, 127), 8);
        Check.due("none of others", y.why(0, 1, 0), 4);
        SealedBonds z = kinds("k0*7");
        Check.due("without q of eight: one", z.why(0, 6, 1), 0);
        Check.due("without q of eight: not two", z.why(0, 6, 2), 4);
        SealedBonds both = kinds("q3;k0*0;k1*3");
        Check.due("each line counts", both.why(0, 3, 0), 4);
        Check.due("the KIND of the other line", both.why(0, 3, 1), 0);
    }

    /** Promise 13: "5 never both". */
    private static void whyNeverBoth() {
        SealedBonds x = kinds("x0|6;x2|3");
        Check.due("with the first", x.why(0, 127, 6), 5);
        Check.due("with one ahead", x.why(0, 127, 3), 5);
        Check.due("without him", x.why(0, 126, 6), 0);
        Check.due("in either order", kinds("x6|0").why(0, 65, 6), 5);
        Check.due("the one ahead is taken", kinds("x6|0").why(0, 65, 0), 0);
    }

    /** Promise 13: "6 else". */
    private static void whyElse() {
        SealedBonds x = kinds("w0&6");
        Check.due("without the other", x.why(0, 1, 0), 6);
        Check.due("the other alone", x.why(0, 64, 6), 6);
        Check.due("both", x.why(0, 65, 0), 0);
        Check.due("no text", Check.market(1, 1, Check.b(0, 0)).why(0, 1, 0), 6);
        SealedBonds y = kinds("q2;w1&2");
        Check.due("no place for both of them", y.take(0, 15), 9);
        Check.due("there is a place, but not for both", y.why(0, 15, 1), 6);
        Check.due("nor for the second", y.why(0, 15, 2), 6);
    }

    /** Promise 13: "the first of these". Each LINE that is broken comes ahead of those that follow. */
    private static void whyTheFirstOfThese() {
        SealedBonds x = new SealedBonds();
        x.office();
        x.person(0);
        x.person(1);
        x.bond(0, 0, 5, 0, 0);
        x.bond(0, 0, 5, 0, 0);
        x.bond(1, 0, 5, 0, 0);
        String[] texts = {"q1;c5;k0*1;x0|1", "q2;c5;k0*2;x0|1", "q2;c10;k0*2;x0|1", "q2;c10;k0*1;x0|1", "q2;c10;k0*1"};
        int[] due = {2, 3, 4, 5, 0};
        for (int i = 0; i < texts.length; i++) {
            Check.choice(x, 0, texts[i]);
            Check.due(texts[i] + ": another's", x.why(0, 7, 2), due[i]);
            Check.due(texts[i] + ": the same one's", x.why(0, 7, 1), 1);
        }
    }

    /** Promise 13: "of what it takes, of BONDS ahead of this one by the ORDER, with this one". */
    private static void whyOnlyWhatIsAhead() {
        SealedBonds x = Check.market(3, 1);
        x.bond(0, 0, 60, 0, 0);
        x.bond(0, 0, 10, 0, 0);
        x.bond(1, 0, 40, 0, 0);
        x.bond(2, 0, 30, 0, 0);
        Check.choice(x, 0, "c50");
        Check.due("take", x.take(0, 15), 6);
        Check.due("the same one's behind is not counted", x.why(0, 15, 0), 3);
        Check.due("the refused one is not counted", x.why(0, 15, 1), 0);
        Check.choice(x, 0, "q2;w0&2;x0|1;r-p");
        Check.due("take", x.take(0, 14), 10);
        Check.due("two ahead of it", x.why(0, 14, 2), 2);
        Check.choice(x, 0, "q2;w0&2;x0|1;r+p");
        Check.due("take", x.take(0, 14), 4);
        Check.due("never both, with one ahead", x.why(0, 14, 1), 5);
        Check.choice(x, 0, "q3;w1&2;x0|1;r-n");
        Check.due("take", x.take(0, 13), 1);
        Check.due("never both with one ahead", x.why(0, 13, 2), 5);
        Check.due("the third has nobody", x.why(0, 13, 3), 6);
        // PERSON 0 is ahead and refused, for PERSON 2 is not offered; PERSON 1 is taken, but behind.
        SealedBonds y = paid("q8", 3, 4, 0);
        for (String text : new String[] {"w0&2;x0|1", "w0&2;q1", "w0&2;c5", "w0&2;q2;k3*1"}) {
            Check.choice(y, 0, text);
            Check.due(text + ": take", y.take(0, 3), 2);
            Check.due(text + ": what is behind is not counted", y.why(0, 3, 0), 6);
        }
        SealedBonds z = Check.market(1, 1, Check.b(0, 0), Check.b(0, 0));
        z.bond(0, 0, 0, 0, 0);
        Check.choice(z, 0, "c9");
        Check.due("the same one's, behind", z.why(0, 7, 0), 3);
        Check.due("the same one's, behind, too", z.why(0, 7, 1), 3);
    }

    /** Promise 13: "NONE: others, it is not one of its BONDS offered." */
    private static void whyOfOthers() {
        SealedBonds x = paid("q1", 1, 1);
        x.bond(0, 1, 1, 1, 1);
        Check.due("offered", x.why(0, 7, 1), 2);
        Check.due("not offered", x.why(0, 5, 1), -1);
        Check.due("none offered", x.why(0, 0, 0), -1);
        Check.due("of another OFFICE", x.why(0, 7, 2), -1);
        Check.due("of its own OFFICE", x.why(1, 7, 2), 6);
        Check.due("no such BOND", x.why(0, 7, 3), -1);
        Check.due("BOND -1", x.why(0, 7, -1), -1);
        Check.due("BOND 32", x.why(0, 7, 32), -1);
        Check.due("no such OFFICE", x.why(2, 7, 0), -1);
        Check.due("OFFICE -1", x.why(-1, 7, 0), -1);
        Check.due("no such set", x.why(0, 8 | 1, 0), -1);
        Check.due("a set below 0", x.why(0, -1, 0), -1);
    }

    /** Promise 14: "among all of that OFFICE, from 0 on. NONE: none such." */
    private static void orderFromNoughtOn() {
        SealedBonds x = Check.market(3, 2, Check.b(0, 0), Check.b(1, 1), Check.b(2, 0), Check.b(0, 1), Check.b(1, 0));
        int[] due = {0, 0, 1, 1, 2};
        for (int b = 0; b < 5; b++) {
            Check.due("order(" + b + ")", x.order(b), due[b]);
        }
        Check.due("order(5)", x.order(5), -1);
        Check.due("order(-1)", x.order(-1), -1);
        Check.choice(x, 0, "r+n");
        int[] then = {2, 0, 0, 1, 1};
        for (int b = 0; b < 5; b++) {
            Check.due("order(" + b + ") then", x.order(b), then[b]);
        }
    }

    /** A new BOND has its place among those that there were. */
    private static void orderWithMoreBonds() {
        SealedBonds x = paid("r+p", 5, 3);
        Check.due("ahead", x.order(0), 0);
        x.bond(0, 0, 9, 0, 0);
        Check.due("the new one", x.order(2), 0);
        Check.due("behind it", x.order(0), 1);
        Check.due("last", x.order(1), 2);
        Check.due("no such BOND yet", x.order(3), -1);
        x.bond(0, 0, 3, 0, 0);
        Check.due("of equal ones the less number", x.order(1), 2);
        Check.due("then the greater", x.order(3), 3);
        Check.due("what is taken of them", x.take(0, 15), 6);
    }

    /** Promise 15: "1". Terms 2: "never takes a BOND that it refused from fewer", "never takes fewer BONDS". */
    private static void lawsKept() {
        SealedBonds x = paid("q2;r-p", 3, 2, 1, 9);
        Check.due("faith", x.law(0, 0), 1);
        Check.due("as many, but others, is not fewer", x.law(0, 1), 1);
        Check.due("an OFFICE without BONDS: faith", x.law(1, 0), 1);
        Check.due("an OFFICE without BONDS: up", x.law(1, 1), 1);
        SealedBonds one = paid("q1", 5);
        Check.due("one BOND: faith", one.law(0, 0), 1);
        Check.due("one BOND: up", one.law(0, 1), 1);
        Check.row("nothing told", one);
        SealedBonds none = Check.market(1, 1, Check.b(0, 0));
        Check.due("no text: faith", none.law(0, 0), 1);
        Check.due("no text: up", none.law(0, 1), 1);
    }

    /** Terms 2: "the first: least set, then the BOND more, then the other one". */
    private static void lawFirstBreachOfFaith() {
        SealedBonds x = Check.market(3, 1, Check.b(0, 0), Check.b(1, 0), Check.b(1, 0), Check.b(2, 0));
        Check.choice(x, 0, "w0&1");
        Check.due("two BONDS more would do", x.law(0, 0), 0);
        Check.row("the less of them", x, 1, 1, 0);
        Check.choice(x, 0, "w1&2");
        Check.due("two sets would do", x.law(0, 0), 0);
        Check.row("the less of them", x, 2, 3, 1);
        Check.choice(x, 0, "w2&0;w2&1;r+n");
        Check.due("two are taken then", x.law(0, 0), 0);
        Check.row("the less of them, by number", x, 3, 3, 0);
        Check.choice(x, 0, "w0&2;q2");
        Check.due("the least set has none of the others", x.law(0, 0), 0);
        Check.row("the least set has none of the others", x, 1, 3, 0);
        SealedBonds y = paid("c5;r+p", 1, 5, 4);
        Check.due("a dear one drives out, and lets in", y.law(0, 0), 1);
        SealedBonds z = paid("c5", 3, 4, 2, 1);
        Check.due("what the first leaves room for", z.law(0, 0), 0);
        Check.row("what the first leaves room for", z, 6, 0, 2);
    }

    /** Promise 15: "a set, the BOND more": for KEEPS UP these two alone. */
    private static void lawFirstBreachOfUp() {
        SealedBonds x = paid("c5;r+p", 2, 3, 5);
        Check.due("one dear for two cheap", x.law(0, 1), 0);
        Check.row("one dear for two cheap", x, 3, 2);
        SealedBonds y = paid("c5;r+p", 2, 3, 4, 5);
        Check.due("two BONDS more would do", y.law(0, 1), 0);
        Check.row("the less of them", y, 3, 2);
        SealedBonds z = paid("x0|2;x0|3;x0|4", 1, 1, 1, 1, 1);
        Check.due("two sets would do", z.law(0, 1), 0);
        Check.row("the least of them", z, 12, 0);
        SealedBonds one = paid("x0|2", 1, 1, 1);
        Check.due("one for one is not fewer", one.law(0, 1), 1);
    }

    /** "Whether an OFFICE's CHOICE KEEPS FAITH (what 0), KEEPS UP (1)": one may hold without the other. */
    private static void lawOneOfBoth() {
        SealedBonds faith = paid("x0|1;x0|2", 1, 1, 1);
        Check.due("faith", faith.law(0, 0), 1);
        Check.due("not up", faith.law(0, 1), 0);
        Check.row("not up", faith, 6, 0);
        SealedBonds up = paid("w0&1", 1, 1);
        Check.due("not faith", up.law(0, 0), 0);
        Check.row("not faith", up, 1, 1, 0);
        Check.due("up", up.law(0, 1), 1);
        SealedBonds neither = paid("c4", 3, 2, 2, 1);
        Check.due("not faith either", neither.law(0, 0), 0);
        Check.row("not faith either", neither, 14, 0, 3);
        Check.due("nor up", neither.law(0, 1), 0);
        Check.row("nor up", neither, 6, 0);
    }

    /** Terms 3: "ROW: numbers told last by a call that says so": a law that is kept tells none. */
    private static void lawRow() {
        SealedBonds x = paid("w0&1", 1, 1);
        x.law(0, 0);
        Check.due("up", x.law(0, 1), 1);
        Check.row("the former ROW", x, 1, 1, 0);
        Check.due("of others", x.law(2, 0), -1);
        Check.row("the former ROW still", x, 1, 1, 0);
        Check.choice(x, 0, "q1");
        Check.due("kept", x.law(0, 0), 1);
        Check.row("the former ROW, though it holds no more", x, 1, 1, 0);
    }

    /** Promise 15: "NONE: others." */
    private static void lawOfOthers() {
        SealedBonds x = paid("w0&1", 1, 1);
        int[][] others = {{0, -1}, {0, 2}, {0, 3}, {-1, 0}, {2, 0}, {2, 2}, {0, Integer.MIN_VALUE}, {Integer.MAX_VALUE, 0}};
        for (int[] a : others) {
            Check.due("law(" + a[0] + ", " + a[1] + ")", x.law(a[0], a[1]), -1);
        }
        Check.row("nothing told", x);
        Check.due("the last OFFICE", x.law(1, 1), 1);
    }
}
