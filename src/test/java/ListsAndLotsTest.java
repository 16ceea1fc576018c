/** Promises 23 to 27: false lists, who is left, what is the same, lots and the mean. */
public final class ListsAndLotsTest {
    public static void main(String[] args) {
        gain();
        gainByTwo();
        left();
        same();
        lot();
        mean();
        Check.close("ListsAndLotsTest");
    }

    /** PAY together at most 30; told by person and pay. */
    private static SealedBonds thirty(int[]... bonds) {
        SealedBonds x = Check.market(3, 1);
        for (int[] b : bonds) {
            x.bond(b[0], 0, b[1], 0, 0);
        }
        Check.choice(x, 0, "c30");
        return x;
    }

    private static void gain() {
        SealedBonds x = thirty(Check.b(1, 20), Check.b(0, 30), Check.b(0, 20), Check.b(1, 10));
        Check.lists(x, 1, 2, 3, 0);
        Check.due("offers", x.offer(), 1);
        Check.row("offers", x, 3, 4);
        Check.due("gain(1)", x.gain(1), 0);
        Check.row("no gain tells nothing", x, 3, 4);
        Check.due("gain(0)", x.gain(0), 1);
        Check.row("gain(0)", x, 2);
        Check.due("the list stays", x.of(1, 5), 0);
        Check.due("the outcome stays", x.offer(), 1);
        Check.due("a person without bonds", x.gain(2), 0);
        Check.due("gain(3)", x.gain(3), -1);
        Check.due("gain(-1)", x.gain(-1), -1);
        x.couple(0, 2);
        Check.due("one of a couple", x.gain(0), -1);
    }

    private static void gainByTwo() {
        SealedBonds x = thirty(Check.b(0, 20), Check.b(1, 30), Check.b(0, 30), Check.b(1, 10));
        Check.lists(x, 2, 3, 0);
        Check.due("offers", x.offer(), 4);
        Check.due("a bond that is not listed helps", x.gain(1), 1);
        Check.row("a bond that is not listed helps", x, 1, 3);
        x.clear(1);
        Check.due("what is not listed is no gain", x.gain(1), 0);
    }

    private static void left() {
        SealedBonds x = MatchingTest.fork();
        Check.due("had by someone in one of all", x.left(), 0);
        x.person(0);
        Check.due("a new one", x.left(), 4);
        x.couple(0, 2);
        Check.due("couples too", x.left(), 5);
        Check.due("none stands", NoneTest.unsettled().left(), -2);
        SealedBonds y = Check.market(3, 1);
        y.bond(0, 0, 10, 0, 0);
        y.bond(1, 0, 10, 0, 0);
        y.bond(0, 0, 20, 0, 0);
        Check.lists(y, 0, 1, 2);
        Check.choice(y, 0, "c20;r+p");
        y.all();
        Check.row("two stand", y, 3, 4);
        Check.due("one has something in the first alone", y.left(), 4);
    }

    private static void same() {
        SealedBonds x = MatchingTest.fork();
        Check.due("not the same", x.same(), 0);
        x.office();
        Check.due("an office that never has any", x.same(), 2);
        SealedBonds y = MatchingTest.chains();
        for (int p = 4; p < 7; p++) {
            y.clear(p);
            y.list(2 * p);
        }
        Check.due("the second has the same", y.same(), 2);
        Check.due("none stands", NoneTest.unsettled().same(), -2);
        SealedBonds z = Check.market(2, 2, Check.b(0, 0), Check.b(1, 0), Check.b(1, 1), Check.b(0, 1), Check.b(1, 0));
        Check.lists(z, 4, 3, 1, 0, 2);
        Check.choice(z, 0, "w0&1");
        Check.choice(z, 1, "w0&1");
        z.all();
        Check.row("three stand", z, 3, 12, 17);
        Check.due("the second has something in the second alone", z.same(), 0);
    }

    private static void lot() {
        SealedBonds x = MatchingTest.fork();
        Check.due("one of three", x.lot(0), 333);
        Check.row("one of three", x, 1, 3);
        Check.due("never", x.lot(4), 0);
        Check.row("never", x, 0, 1);
        Check.due("lot(5)", x.lot(5), -1);
        Check.due("lot(-1)", x.lot(-1), -1);
        Check.row("refused", x, 0, 1);
        SealedBonds y = MatchingTest.chains();
        Check.due("64 of 128", y.lot(13), 500);
        Check.row("cut down", y, 1, 2);
        y.clear(0);
        y.list(0);
        Check.due("always", y.lot(0), 1000);
        Check.row("always", y, 1, 1);
        SealedBonds z = NoneTest.unsettled();
        z.judge(0);
        Check.due("none stands", z.lot(0), -2);
        Check.row("none stands tells nothing", z, 0, 4);
        Check.due("no such bond is refused first", z.lot(4), -1);
    }

    private static void mean() {
        Check.due("the one in the midst", MatchingTest.fork().mean(), 2);
        Check.due("of an even number the better", MatchingTest.chains().mean(), 0b10101010101010);
        Check.due("none stands", NoneTest.unsettled().mean(), -2);
        SealedBonds x = Check.market(2, 1, Check.b(0, 0), Check.b(1, 0));
        x.couple(0, 1);
        x.pair(0, 0, 1);
        Check.lists(x, 0, 1);
        Check.choice(x, 0, "q2");
        Check.due("they have", x.best(0), 3);
        Check.due("couples nothing", x.mean(), 0);
    }
}
