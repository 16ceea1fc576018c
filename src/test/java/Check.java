import java.util.NoSuchElementException;

/** What the tests share: answers compared, texts told, small markets made. */
final class Check {
    private static int wrong = 0;
    private static int made = 0;

    private Check() {}

    static void due(String what, long got, long due) {
        made++;
        if (got != due) {
            wrong++;
            System.out.println(what + " answered " + got + ", due is " + due);
        }
    }

    static void holds(String what, boolean held) {
        due(what, held ? 1 : 0, 1);
    }

    /** The ROW has just these numbers. */
    static void row(String what, SealedBonds x, int... numbers) {
        due(what + ": numbers of the ROW", x.count(5), numbers.length);
        for (int i = 0; i < numbers.length; i++) {
            due(what + ": row(" + i + ")", throwsAt(x, i) ? Integer.MIN_VALUE : x.row(i), numbers[i]);
        }
        holds(what + ": row(-1) throws", throwsAt(x, -1));
        holds(what + ": row(" + numbers.length + ") throws", throwsAt(x, numbers.length));
        holds(what + ": row(least) throws", throwsAt(x, Integer.MIN_VALUE));
        holds(what + ": row(greatest) throws", throwsAt(x, Integer.MAX_VALUE));
    }

    private static boolean throwsAt(SealedBonds x, int i) {
        try {
            x.row(i);
            return false;
        } catch (NoSuchElementException none) {
            return true;
        }
    }

    /** THE TEXT is this one then. */
    static void text(SealedBonds x, String text) {
        x.end(0);
        for (int i = 0; i < text.length(); i += 4) {
            int v = 0;
            for (int j = 0; j < 4; j++) {
                v = v << 8 | (i + j < text.length() ? text.charAt(i + j) : 0);
            }
            x.sign(v);
        }
        holds("end of " + text, x.end(text.length()));
    }

    static int choice(SealedBonds x, int office, String text) {
        text(x, text);
        return x.choice(office);
    }

    /** PEOPLE of KIND 0, OFFICES, and BONDS told by person and office (pay 10, years 1, town 1). */
    static SealedBonds market(int people, int offices, int[]... bonds) {
        SealedBonds x = new SealedBonds();
        for (int i = 0; i < people; i++) {
            x.person(0);
        }
        for (int i = 0; i < offices; i++) {
            x.office();
        }
        for (int[] b : bonds) {
            x.bond(b[0], b[1], 10, 1, 1);
        }
        return x;
    }

    static int[] b(int person, int office) {
        return new int[] {person, office};
    }

    static void lists(SealedBonds x, int... bonds) {
        for (int b : bonds) {
            x.list(b);
        }
    }

    static void close(String test) {
        System.out.println(test + ": " + made + " checks, " + wrong + " wrong");
        if (wrong != 0) {
            System.exit(1);
        }
    }
}
