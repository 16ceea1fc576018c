import java.util.NoSuchElementException;

/**
 * "Refused calls answer NONE, or false, and change nothing": each of them is made on one of two like objects, and all
 * that can be seen of both is compared then.
 */
public final class RefusedCallsTest {
    private static final int LEAST = Integer.MIN_VALUE;
    private static final int GREATEST = Integer.MAX_VALUE;

    interface Call {
        int on(SealedBonds x);
    }

    public static void main(String[] args) {
        comparisonSees();
        ofPeopleAndOffices();
        ofBonds();
        ofLists();
        ofCouples();
        ofPairs();
        ofTheText();
        ofChoices();
        ofMatchings();
        ofListsAndLots();
        ofWhatComesAndGoes();
        choiceEmptiesTheText();
        askingChangesNothing();
        Check.close("RefusedCallsTest");
    }

    /** The call answers what is due on the one, and the other one is the same as it afterwards. */
    private static void refused(String what, Markets.Maker maker, int due, Call call) {
        SealedBonds one = maker.make();
        Check.due(what, call.on(one), due);
        Check.holds(what + " changes nothing", Seen.of(one).equals(Seen.of(maker.make())));
    }

    private static void none(String what, Markets.Maker maker, Call call) {
        refused(what, maker, -1, call);
    }

    /** Numbers that are none of 0 to many - 1: just outside, far outside, and such as would do if cut to fewer bits. */
    private static int[] others(int many) {
        int in = Math.max(0, many - 1);
        return new int[] {-1, -2, many, many + 1, in + 8, in + 32, in + 64, in + 256, in + 65536, in | LEAST, -in - 1,
            GREATEST, LEAST};
    }

    /** Sets with a bit that is none of those of the BONDS. */
    private static int[] otherSets(int bonds) {
        return new int[] {1 << bonds, 1 << bonds | 1, 1 << 20, 1 << 30, LEAST, LEAST | 1, -1, GREATEST};
    }

    /** The comparison would be worth nothing, if it did not see what has changed. */
    private static void comparisonSees() {
        Call[] changes = {x -> x.person(3), x -> x.office(), x -> x.bond(0, 0, 0, 0, 0), x -> x.list(5), x -> x.clear(2),
            x -> x.couple(2, 3), x -> x.pair(0, -1, 1), x -> x.sign(0), x -> x.end(5) ? 1 : 0, x -> x.choice(0),
            x -> x.choice(2), x -> x.all(), x -> x.near()};
        String before = Seen.of(Markets.small());
        Check.holds("like objects are alike", before.equals(Seen.of(Markets.small())));
        for (int i = 0; i < changes.length; i++) {
            SealedBonds x = Markets.small();
            changes[i].on(x);
            Check.holds("change " + i + " is seen", !before.equals(Seen.of(x)));
        }
    }

    /** Promise 2: "Refused: others, 7." Promise 3: "Refused: 4." */
    private static void ofPeopleAndOffices() {
        for (int kind : others(4)) {
            none("person(" + kind + ")", Markets::empty, x -> x.person(kind));
            none("person(" + kind + ")", Markets::small, x -> x.person(kind));
        }
        for (int kind = 0; kind < 4; kind++) {
            int k = kind;
            none("an eighth of KIND " + kind, Markets::full, x -> x.person(k));
        }
        none("a fifth OFFICE", Markets::full, SealedBonds::office);
    }

    /** Promise 4: "Refused: others, 20, 8 of the OFFICE, 5 of the PERSON." */
    private static void ofBonds() {
        none("a BOND of nobody", Markets::empty, x -> x.bond(0, 0, 0, 0, 0));
        for (int p : others(4)) {
            none("bond(" + p + ", 0, 0, 0, 0)", Markets::small, x -> x.bond(p, 0, 0, 0, 0));
        }
        for (int o : others(3)) {
            none("bond(0, " + o + ", 0, 0, 0)", Markets::small, x -> x.bond(0, o, 0, 0, 0));
        }
        for (int pay : others(100)) {
            none("bond(0, 0, " + pay + ", 0, 0)", Markets::small, x -> x.bond(0, 0, pay, 0, 0));
        }
        for (int n : others(10)) {
            none("bond(0, 0, 0, " + n + ", 0)", Markets::small, x -> x.bond(0, 0, 0, n, 0));
            none("bond(0, 0, 0, 0, " + n + ")", Markets::small, x -> x.bond(0, 0, 0, 0, n));
        }
        none("a 21st BOND", Markets::full, x -> x.bond(6, 1, 0, 0, 0));
        none("a ninth of the OFFICE", RefusedCallsTest::nearlyFull, x -> x.bond(6, 0, 0, 0, 0));
        none("a sixth of the PERSON", RefusedCallsTest::nearlyFull, x -> x.bond(0, 1, 0, 0, 0));
    }

    /** OFFICE 0 has eight BONDS, PERSON 0 five of these; there are twelve. */
    private static SealedBonds nearlyFull() {
        SealedBonds x = Check.market(7, 2);
        for (int i = 0; i < 12; i++) {
            x.bond(i < 5 ? 0 : i % 3 + 1, i < 8 ? 0 : 1, i, 0, 0);
            x.list(i);
        }
        Check.choice(x, 0, "q3;r+p");
        Check.choice(x, 1, "q1");
        x.offer();
        return x;
    }

    /** Promise 5: "Refused: none such, it is on it." Promise 6: "NONE: none such." */
    private static void ofLists() {
        for (int b : others(6)) {
            none("list(" + b + ")", Markets::small, x -> x.list(b));
        }
        for (int b : others(0)) {
            none("list(" + b + ") of none", Markets::empty, x -> x.list(b));
        }
        for (int b : others(20)) {
            none("list(" + b + ") of twenty", Markets::full, x -> x.list(b));
        }
        for (int b : new int[] {2, 3, 4}) {
            none("list(" + b + ") again", Markets::small, x -> x.list(b));
        }
        for (int p : others(4)) {
            none("clear(" + p + ")", Markets::small, x -> x.clear(p));
        }
        for (int p : others(7)) {
            none("clear(" + p + ") of seven", Markets::full, x -> x.clear(p));
        }
        none("clear(0) of nobody", Markets::empty, x -> x.clear(0));
    }

    /** Promise 7: "Refused: others, 2." */
    private static void ofCouples() {
        for (int p : others(4)) {
            none("couple(" + p + ", 2)", Markets::small, x -> x.couple(p, 2));
            none("couple(2, " + p + ")", Markets::small, x -> x.couple(2, p));
        }
        int[][] taken = {{2, 2}, {3, 3}, {0, 0}, {0, 1}, {1, 0}, {0, 2}, {2, 0}, {1, 2}, {2, 1}};
        for (int[] t : taken) {
            none("couple(" + t[0] + ", " + t[1] + ")", Markets::small, x -> x.couple(t[0], t[1]));
        }
        none("a third COUPLE", Markets::full, x -> x.couple(2, 3));
    }

    /** Promise 8: "Refused: others, 8." Terms 1: "not both NONE, each PAIR once". */
    private static void ofPairs() {
        for (int c : others(1)) {
            none("pair(" + c + ", 0, -1)", Markets::small, x -> x.pair(c, 0, -1));
        }
        for (int c : others(2)) {
            none("pair(" + c + ", 0, 1)", Markets::full, x -> x.pair(c, 0, 1));
        }
        none("pair of no COUPLE", Markets::empty, x -> x.pair(0, -1, -1));
        none("both NONE", Markets::small, x -> x.pair(0, -1, -1));
        none("a PAIR again", Markets::small, x -> x.pair(0, 0, 1));
        for (int b : others(6)) {
            if (b != -1) {
                none("pair(0, " + b + ", 1)", Markets::small, x -> x.pair(0, b, 1));
                none("pair(0, " + b + ", -1)", Markets::small, x -> x.pair(0, b, -1));
                none("pair(0, 0, " + b + ")", Markets::small, x -> x.pair(0, 0, b));
                none("pair(0, -1, " + b + ")", Markets::small, x -> x.pair(0, -1, b));
            }
        }
        int[][] notTheirs = {{1, 0}, {1, -1}, {-1, 0}, {1, 1}, {0, 0}, {2, 1}, {0, 3}, {2, -1}, {-1, 5}};
        for (int[] p : notTheirs) {
            none("pair(0, " + p[0] + ", " + p[1] + ")", Markets::small, x -> x.pair(0, p[0], p[1]));
        }
        none("a ninth PAIR", Markets::full, x -> x.pair(0, 0, -1));
    }

    /** Promise 9: "Refused: there would be more than 100." Promise 10: "false if it has not so many, or n is below 0." */
    private static void ofTheText() {
        for (int many = 97; many <= 100; many++) {
            int signs = many;
            for (int v : new int[] {0, 0x71323b71, -1}) {
                none("sign " + v + " behind " + many, () -> Markets.withSigns(signs), x -> x.sign(v));
            }
        }
        for (int n : new int[] {7, 8, 60, 100, 101, -1, -6, 6 + 256, 6 + 65536, 6 | LEAST, LEAST, GREATEST}) {
            refused("end(" + n + ")", Markets::small, 0, x -> x.end(n) ? 1 : 0);
        }
        for (int n : new int[] {1, 4, -1, GREATEST}) {
            refused("end(" + n + ") of none", Markets::empty, 0, x -> x.end(n) ? 1 : 0);
        }
        refused("end(101)", () -> Markets.withSigns(100), 0, x -> x.end(101) ? 1 : 0);
    }

    /** Promises 12 to 15: "NONE: none such, not sets of BONDS that there are", "others", "none such". */
    private static void ofChoices() {
        for (int o : others(3)) {
            none("take(" + o + ", 1)", Markets::small, x -> x.take(o, 1));
            none("why(" + o + ", 1, 0)", Markets::small, x -> x.why(o, 1, 0));
            none("law(" + o + ", 0)", Markets::small, x -> x.law(o, 0));
        }
        for (int set : otherSets(6)) {
            none("take(0, " + set + ")", Markets::small, x -> x.take(0, set));
            none("why(0, " + set + ", 0)", Markets::small, x -> x.why(0, set | 1, 0));
        }
        for (int set : otherSets(20)) {
            none("take(0, " + set + ") of twenty", Markets::full, x -> x.take(0, set));
        }
        for (int b : others(6)) {
            none("why(0, 63, " + b + ")", Markets::small, x -> x.why(0, 63, b));
            none("order(" + b + ")", Markets::small, x -> x.order(b));
        }
        for (int b : new int[] {1, 3, 5}) {
            none("why of a BOND of another OFFICE", Markets::small, x -> x.why(0, 63, b));
        }
        none("why of a BOND not offered", Markets::small, x -> x.why(0, 62, 0));
        none("why of none offered", Markets::small, x -> x.why(0, 0, 0));
        for (int what : others(2)) {
            none("law(0, " + what + ")", Markets::small, x -> x.law(0, what));
        }
        none("order(0) of none", Markets::empty, x -> x.order(0));
        none("take(0, 0) of none", Markets::empty, x -> x.take(0, 0));
        none("law(0, 0) of none", Markets::empty, x -> x.law(0, 0));
    }

    /** Promises 16, 19, 20: "NONE: not a set of BONDS that there are", "another side", "one does not STAND". */
    private static void ofMatchings() {
        for (int set : otherSets(6)) {
            none("judge(" + set + ")", Markets::small, x -> x.judge(set));
            none("steps(" + set + ", 0)", Markets::small, x -> x.steps(set, 0));
            none("steps(0, " + set + ")", Markets::empty, x -> x.steps(0, set));
            none("steps(" + set + ", 0)", Markets::empty, x -> x.steps(set, 0));
        }
        for (int set : otherSets(20)) {
            none("judge(" + set + ") of twenty", Markets::full, x -> x.judge(set));
        }
        for (int set : otherSets(0)) {
            none("judge(" + set + ") of none", Markets::empty, x -> x.judge(set));
        }
        for (int side : others(2)) {
            none("best(" + side + ")", Markets::small, x -> x.best(side));
            none("best(" + side + ") of the empty one", Markets::empty, x -> x.best(side));
        }
        none("steps where nothing STANDS", Markets::small, x -> x.steps(0, 0));
    }

    /** Promises 23, 26: "NONE: none such, it is in a COUPLE", "no such BOND". */
    private static void ofListsAndLots() {
        for (int p : others(4)) {
            none("gain(" + p + ")", Markets::small, x -> x.gain(p));
        }
        for (int p : others(7)) {
            none("gain(" + p + ") of seven", Markets::full, x -> x.gain(p));
        }
        none("gain of the first of a COUPLE", Markets::small, x -> x.gain(0));
        none("gain of the second", Markets::small, x -> x.gain(1));
        none("gain(0) of nobody", Markets::empty, x -> x.gain(0));
        for (int b : others(6)) {
            none("lot(" + b + ")", Markets::small, x -> x.lot(b));
        }
        for (int b : others(20)) {
            none("lot(" + b + ") of twenty", Markets::full, x -> x.lot(b));
        }
        none("lot(0) of none", Markets::empty, x -> x.lot(0));
    }

    /** Promises 28 to 31: "NONE: none such, another what", "NoSuchElementException: none such". */
    private static void ofWhatComesAndGoes() {
        for (int p : others(4)) {
            none("gone(0, " + p + ")", Markets::small, x -> x.gone(0, p));
        }
        for (int b : others(6)) {
            none("gone(1, " + b + ")", Markets::small, x -> x.gone(1, b));
            none("of(" + b + ", 0)", Markets::small, x -> x.of(b, 0));
            none("of(" + b + ", 5)", Markets::small, x -> x.of(b, 5));
        }
        for (int what : others(2)) {
            none("gone(" + what + ", 0)", Markets::small, x -> x.gone(what, 0));
        }
        for (int what : others(6)) {
            none("count(" + what + ")", Markets::small, x -> x.count(what));
            none("of(0, " + what + ")", Markets::small, x -> x.of(0, what));
        }
        for (int i : others(2)) {
            refused("row(" + i + ") throws", Markets::small, 1, x -> throwsNone(x, i) ? 1 : 0);
        }
        refused("row(0) of none throws", Markets::empty, 1, x -> throwsNone(x, 0) ? 1 : 0);
    }

    private static boolean throwsNone(SealedBonds x, int i) {
        try {
            x.row(i);
            return false;
        } catch (NoSuchElementException none) {
            return true;
        }
    }

    /** Promise 11: "THE TEXT, which is empty then": but for that a wrong text, or no such OFFICE, changes nothing. */
    private static void choiceEmptiesTheText() {
        Markets.Maker emptied = () -> {
            SealedBonds x = Markets.small();
            x.end(0);
            return x;
        };
        String due = Seen.of(emptied.make());
        for (int o : others(3)) {
            SealedBonds x = Markets.small();
            Check.due("choice(" + o + ")", x.choice(o), -100);
            Check.holds("choice(" + o + ") empties THE TEXT alone", Seen.of(x).equals(due));
        }
        for (int o = 0; o < 3; o++) {
            SealedBonds x = Markets.small();
            x.end(5);
            Check.due("a text cut off for " + o, x.choice(o), -6);
            Check.holds("a wrong text for " + o + " is gone, nothing else", Seen.of(x).equals(due));
            SealedBonds y = emptied.make();
            Check.due("no text for " + o, y.choice(o), -1);
            Check.holds("no text for " + o + " changes nothing", Seen.of(y).equals(due));
        }
        refused("choice(0) of none", Markets::empty, -100, x -> x.choice(0));
    }

    /** What only asks leaves all but the ROW as it is: no false LIST stays, nobody gone, no place more. */
    private static void askingChangesNothing() {
        Call[] asking = {x -> x.take(0, 5), x -> x.why(0, 5, 2), x -> x.order(2), x -> x.law(0, 0), x -> x.law(1, 1),
            x -> x.judge(1), x -> x.judge(2), x -> x.offer(), x -> x.all(), x -> x.best(0), x -> x.best(1),
            x -> x.steps(0, 1), x -> x.near(), x -> x.places(), x -> x.gain(2), x -> x.gain(3), x -> x.left(),
            x -> x.same(), x -> x.lot(2), x -> x.mean(), x -> x.gone(0, 2), x -> x.gone(1, 2), x -> x.gone(1, 4),
            x -> x.count(5), x -> x.of(2, 5), x -> throwsNone(x, 0) ? 1 : 0};
        Markets.Maker[] makers = {Markets::small, Markets::full, RefusedCallsTest::nearlyFull};
        for (int m = 0; m < makers.length; m++) {
            SealedBonds untouched = makers[m].make();
            untouched.offer();
            String due = Seen.of(untouched);
            for (int i = 0; i < asking.length; i++) {
                SealedBonds x = makers[m].make();
                asking[i].on(x);
                // The ROW is told anew, for that one may be another.
                x.offer();
                Check.holds("asking " + i + " of " + m + " changes nothing", Seen.of(x).equals(due));
            }
        }
    }
}
