/** Promises 1 to 8, and what refused calls leave as it is. */
public final class WhoThereIsTest {
    private static final int LEAST = Integer.MIN_VALUE;
    private static final int GREATEST = Integer.MAX_VALUE;

    public static void main(String[] args) {
        newObject();
        person();
        office();
        bond();
        list();
        clear();
        couple();
        pair();
        Check.close("WhoThereIsTest");
    }

    private static void newObject() {
        SealedBonds x = new SealedBonds();
        for (int what = 0; what <= 5; what++) {
            Check.due("new: count(" + what + ")", x.count(what), 0);
        }
        Check.row("new", x);
        Check.due("new: of", x.of(0, 0), -1);
        Check.due("new: order", x.order(0), -1);
        Check.due("new: take", x.take(0, 0), -1);
        Check.due("new: judge(0)", x.judge(0), 0);
        Check.due("new: judge(1)", x.judge(1), -1);
        Check.due("new: all", x.all(), 1);
        Check.row("new: all", x, 0);
        Check.due("new: places", x.places(), 0);
        Check.row("new: places", x);
        Check.due("new: near", x.near(), 0);
        Check.row("new: near", x, 0);
        Check.due("new: best", x.best(1), 0);
        Check.due("new: left", x.left(), 0);
        Check.due("new: mean", x.mean(), 0);
        Check.due("new: gone", x.gone(0, 0), -1);
        Check.due("new: gain", x.gain(0), -1);
        Check.due("new: offer", x.offer(), 0);
        Check.row("new: offer", x, 0, 0);
    }

    private static void person() {
        SealedBonds one = new SealedBonds();
        one.person(0);
        Check.due("all of one person", one.all(), 1);
        SealedBonds x = new SealedBonds();
        for (int kind : new int[] {-1, 4, LEAST, GREATEST}) {
            Check.due("person(" + kind + ")", x.person(kind), -1);
        }
        for (int i = 0; i < 7; i++) {
            Check.due("person " + i, x.person(i % 4), i);
        }
        Check.due("the eighth", x.person(0), -1);
        Check.due("people", x.count(0), 7);
    }

    private static void office() {
        SealedBonds one = new SealedBonds();
        one.office();
        Check.due("all of one office", one.all(), 1);
        SealedBonds x = new SealedBonds();
        for (int i = 0; i < 4; i++) {
            Check.due("office " + i, x.office(), i);
        }
        Check.due("the fifth", x.office(), -1);
        Check.due("offices", x.count(1), 4);
    }

    private static void bond() {
        SealedBonds x = Check.market(7, 4);
        int[][] refused = {{-1, 0, 0, 0, 0}, {7, 0, 0, 0, 0}, {0, -1, 0, 0, 0}, {0, 4, 0, 0, 0}, {0, 0, -1, 0, 0},
            {0, 0, 100, 0, 0}, {0, 0, 0, -1, 0}, {0, 0, 0, 10, 0}, {0, 0, 0, 0, -1}, {0, 0, 0, 0, 10},
            {LEAST, 0, 0, 0, 0}, {0, GREATEST, 0, 0, 0}, {0, 0, LEAST, GREATEST, 0}};
        for (int[] a : refused) {
            Check.due("bond " + java.util.Arrays.toString(a), x.bond(a[0], a[1], a[2], a[3], a[4]), -1);
        }
        Check.due("bonds", x.count(2), 0);
        for (int i = 0; i < 5; i++) {
            Check.due("bond of the first", x.bond(0, 3, 99, 9, 9), i);
        }
        Check.due("the sixth of a person", x.bond(0, 1, 0, 0, 0), -1);
        for (int i = 0; i < 3; i++) {
            Check.due("bond of the second", x.bond(1, 3, 0, 0, 0), 5 + i);
        }
        Check.due("the ninth of an office", x.bond(2, 3, 0, 0, 0), -1);
        for (int i = 0; i < 12; i++) {
            Check.due("bond " + (8 + i), x.bond(2 + i % 4, i % 3, i, i % 10, i % 7), 8 + i);
        }
        Check.due("the 21st", x.bond(6, 0, 0, 0, 0), -1);
        Check.due("bonds", x.count(2), 20);
        Check.due("pay kept", x.of(4, 2), 99);
    }

    private static void list() {
        SealedBonds x = Check.market(2, 1, Check.b(0, 0), Check.b(1, 0), Check.b(0, 0), Check.b(0, 0));
        Check.due("list(-1)", x.list(-1), -1);
        Check.due("list(4)", x.list(4), -1);
        Check.due("list(least)", x.list(LEAST), -1);
        Check.due("list(3)", x.list(3), 1);
        Check.due("list(0)", x.list(0), 2);
        Check.due("list(3) again", x.list(3), -1);
        Check.due("list(1), of another", x.list(1), 1);
        Check.due("list(2)", x.list(2), 3);
        Check.due("place of 3", x.of(3, 5), 0);
        Check.due("place of 0", x.of(0, 5), 1);
        Check.due("place of 2", x.of(2, 5), 2);
        Check.due("place of 1", x.of(1, 5), 0);
    }

    private static void clear() {
        SealedBonds x = Check.market(2, 1, Check.b(0, 0), Check.b(1, 0), Check.b(0, 0));
        Check.lists(x, 2, 0, 1);
        Check.due("clear(-1)", x.clear(-1), -1);
        Check.due("clear(2)", x.clear(2), -1);
        Check.due("clear(0)", x.clear(0), 2);
        Check.due("place of 0", x.of(0, 5), -1);
        Check.due("place of 2", x.of(2, 5), -1);
        Check.due("the other's stays", x.of(1, 5), 0);
        Check.due("clear(0) again", x.clear(0), 0);
        Check.due("listed anew", x.list(0), 1);
        Check.choice(x, 0, "q1");
        Check.due("no wish from the former list", x.judge(1), 0);
    }

    private static void couple() {
        SealedBonds x = Check.market(7, 1);
        Check.due("with himself", x.couple(1, 1), -1);
        Check.due("with nobody", x.couple(1, -1), -1);
        Check.due("nobody", x.couple(7, 1), -1);
        Check.due("couple(3, 1)", x.couple(3, 1), 0);
        Check.due("first again", x.couple(3, 2), -1);
        Check.due("second again", x.couple(2, 1), -1);
        Check.due("couple(0, 6)", x.couple(0, 6), 1);
        Check.due("a third", x.couple(4, 5), -1);
        Check.due("couples", x.count(3), 2);
        Check.due("not refused ones", x.gain(4), 0);
        Check.due("in a couple", x.gain(6), -1);
    }

    private static void pair() {
        SealedBonds x = Check.market(4, 2);
        for (int i = 0; i < 3; i++) {
            x.bond(0, 0, i, 0, 0);
            x.bond(1, 1, i, 0, 0);
        }
        x.bond(2, 1, 0, 0, 0);
        x.couple(1, 0);
        int[][] refused = {{-1, 1, 0}, {1, 1, 0}, {0, -1, -1}, {0, 0, 1}, {0, 1, 6}, {0, 6, 0}, {0, 1, 7}, {0, 7, 0},
            {0, -2, 0}, {0, 1, -2}, {0, LEAST, 0}, {0, 1, GREATEST}};
        for (int[] a : refused) {
            Check.due("pair " + java.util.Arrays.toString(a), x.pair(a[0], a[1], a[2]), -1);
        }
        int[][] pairs = {{1, 0}, {1, -1}, {-1, 0}, {3, 0}, {1, 2}, {3, -1}, {5, 4}, {3, 2}};
        for (int i = 0; i < 8; i++) {
            Check.due("pair " + i, x.pair(0, pairs[i][0], pairs[i][1]), i + 1);
            Check.due("pair " + i + " again", x.pair(0, pairs[i][0], pairs[i][1]), -1);
        }
        Check.due("a ninth", x.pair(0, 5, 0), -1);
    }
}
