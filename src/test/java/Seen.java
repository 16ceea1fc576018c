import java.util.NoSuchElementException;

/**
 * All that can be seen of an object, as one text, so that two of them can be compared. It changes the object, and it
 * takes fewer than 400 calls, for no more than 512 are promised.
 */
final class Seen {
    static final int MOST_CALLS = 400;
    private final SealedBonds x;
    private final StringBuilder all = new StringBuilder();
    private int calls = 0;

    private Seen(SealedBonds it) {
        x = it;
    }

    static String of(SealedBonds x) {
        Seen seen = new Seen(x);
        seen.row();
        seen.whoThereIs();
        seen.choices();
        seen.matchings();
        seen.lists();
        seen.whatCanCome();
        Check.holds("calls to see an object: " + seen.calls, seen.calls <= MOST_CALLS);
        return seen.all.toString();
    }

    private void saw(String what, int answer) {
        calls++;
        all.append(what).append(' ').append(answer).append('\n');
    }

    private void row() {
        int many = x.count(5);
        saw("  count(5)", many);
        for (int i = 0; i < many; i++) {
            saw("  row " + i, x.row(i));
        }
        try {
            saw("  row " + many, x.row(many));
        } catch (NoSuchElementException none) {
            calls++;
        }
    }

    private void whoThereIs() {
        for (int what = 0; what < 5; what++) {
            saw("count " + what, x.count(what));
        }
        int bonds = x.count(2);
        for (int b = 0; b < bonds; b++) {
            saw("place of " + b, x.of(b, 5));
            for (int what = 0; what < 5 && (b < 2 || b > bonds - 3); what++) {
                saw("of " + b + " " + what, x.of(b, what));
            }
        }
    }

    private void choices() {
        int every = (1 << x.count(2)) - 1;
        for (int b = 0; b < x.count(2); b++) {
            saw("order " + b, x.order(b));
            saw("why not " + b, x.why(x.of(b, 1), every, b));
        }
        for (int o = 0; o < x.count(1); o++) {
            saw("take " + o, x.take(o, every));
            saw("take of some " + o, x.take(o, every & 0x5a5a5));
            saw("faith " + o, x.law(o, 0));
            row();
            saw("up " + o, x.law(o, 1));
        }
    }

    private void matchings() {
        saw("judge nothing", x.judge(0));
        row();
        saw("offer", x.offer());
        row();
        saw("all", x.all());
        row();
        saw("best", x.best(0));
        saw("worst", x.best(1));
        saw("near", x.near());
        row();
        saw("places", x.places());
        row();
    }

    private void lists() {
        for (int p = 0; p < x.count(0); p++) {
            saw("gain " + p, x.gain(p));
            row();
            saw("gone " + p, x.gone(0, p));
        }
        for (int b = 0; b < x.count(2); b++) {
            saw("lot " + b, x.lot(b));
        }
        saw("left", x.left());
        saw("same", x.same());
        saw("mean", x.mean());
    }

    /** What is not there can't be asked for; but what comes next shows how much is there. */
    private void whatCanCome() {
        saw("end", x.end(6) ? 1 : 0);
        saw("choice", x.choice(0));
        saw("take", x.take(0, (1 << x.count(2)) - 1));
        saw("sign", x.sign(0x71313b71));
        for (int c = 0; c < 2; c++) {
            saw("a pair", x.pair(c, 0, -1));
            saw("another pair", x.pair(c, 3, -1));
            saw("another pair", x.pair(c, -1, 1));
        }
        for (int b = 0; b < 6; b++) {
            saw("list " + b, x.list(b));
        }
        saw("couple", x.couple(2, 3));
        saw("person", x.person(3));
        saw("office", x.office());
        saw("bond", x.bond(0, 0, 99, 9, 9));
        saw("all", x.all());
    }
}
