/** Promises 28 to 31, and that the ROW is the one told last by a call that says so. */
public final class ComesAndGoesTest {
    public static void main(String[] args) {
        gone();
        goneWithoutOutcome();
        count();
        of();
        row();
        Check.close("ComesAndGoesTest");
    }

    private static void gone() {
        SealedBonds x = Check.market(4, 3, Check.b(0, 0), Check.b(1, 0), Check.b(1, 1), Check.b(2, 1), Check.b(2, 2));
        Check.lists(x, 0, 1, 2, 3, 4);
        for (int o = 0; o < 3; o++) {
            Check.choice(x, o, "q1");
        }
        Check.due("offers", x.offer(), 1 | 4 | 16);
        Check.due("the chain of a person", x.gone(0, 0), 3);
        Check.row("the chain of a person", x, 2 | 8, 7);
        Check.due("one who changes nothing", x.gone(0, 3), 0);
        Check.row("one who changes nothing", x, 1 | 4 | 16, 0);
        Check.due("a bond", x.gone(1, 2), 2);
        Check.row("a bond", x, 1 | 8, 6);
        Check.due("a bond that nobody has", x.gone(1, 1), 0);
        Check.row("a bond that nobody has", x, 1 | 4 | 16, 0);
        Check.due("all is there again", x.offer(), 1 | 4 | 16);
        int[][] refused = {{0, -1}, {0, 4}, {1, -1}, {1, 5}, {2, 0}, {-1, 0}};
        for (int[] a : refused) {
            Check.due("gone " + a[0] + " " + a[1], x.gone(a[0], a[1]), -1);
        }
        x.couple(0, 3);
        Check.due("one of a couple offers nothing anyway", x.gone(0, 0), 0);
        Check.row("one of a couple", x, 2 | 8, 0);
    }

    /** Without PERSON 0 the BOND 2 is held for a while, and the other one of PERSON 2 is taken back. */
    private static void goneWithoutOutcome() {
        SealedBonds x = Check.market(3, 2, Check.b(0, 0), Check.b(2, 1), Check.b(2, 0), Check.b(1, 1), Check.b(1, 0));
        Check.lists(x, 0, 4, 3, 1, 2);
        Check.choice(x, 0, "q1");
        Check.choice(x, 1, "w1&2");
        Check.due("with", x.offer(), 11);
        Check.row("with", x, 2, 5);
        Check.due("without", x.gone(0, 0), -3);
        Check.due("without the bond", x.gone(1, 0), -3);
        Check.row("no outcome tells nothing", x, 2, 5);
        Check.due("without another", x.gone(0, 1), 2);
        Check.row("without another", x, 1, 6);
    }

    private static void count() {
        SealedBonds x = Check.market(3, 2, Check.b(0, 0), Check.b(1, 1), Check.b(2, 0), Check.b(2, 1));
        x.couple(0, 1);
        x.sign(0);
        x.sign(0);
        x.end(5);
        x.offer();
        int[] due = {3, 2, 4, 1, 5, 2};
        for (int what = 0; what < 6; what++) {
            Check.due("count(" + what + ")", x.count(what), due[what]);
        }
        Check.due("count(6)", x.count(6), -1);
        Check.due("count(-1)", x.count(-1), -1);
        Check.due("count(least)", x.count(Integer.MIN_VALUE), -1);
    }

    private static void of() {
        SealedBonds x = Check.market(3, 2);
        x.bond(2, 1, 98, 7, 6);
        x.bond(2, 0, 0, 0, 0);
        x.list(1);
        int[] due = {2, 1, 98, 7, 6, -1};
        for (int what = 0; what < 6; what++) {
            Check.due("of(0, " + what + ")", x.of(0, what), due[what]);
        }
        Check.due("of(1, 5)", x.of(1, 5), 0);
        x.list(0);
        Check.due("listed", x.of(0, 5), 1);
        Check.due("of(0, 6)", x.of(0, 6), -1);
        Check.due("of(0, -1)", x.of(0, -1), -1);
        Check.due("of(2, 0)", x.of(2, 0), -1);
        Check.due("of(-1, 0)", x.of(-1, 0), -1);
    }

    private static void row() {
        SealedBonds x = MatchingTest.fork();
        x.all();
        Check.row("all", x, 1, 4, 10);
        x.take(0, 3);
        x.why(0, 3, 1);
        x.order(0);
        x.best(0);
        x.steps(1, 4);
        x.left();
        x.same();
        x.mean();
        x.count(0);
        x.of(0, 0);
        x.judge(1);
        x.law(0, 5);
        x.gain(9);
        x.list(0);
        x.person(9);
        x.choice(0);
        Check.row("calls that say nothing of it", x, 1, 4, 10);
        x.lot(4);
        Check.row("a shorter one", x, 0, 1);
        x.near();
        Check.row("a shorter one still", x, 1);
    }
}
