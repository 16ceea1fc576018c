import java.util.NoSuchElementException;
import java.util.Random;

/** Runs of calls drawn by fixed seeds, each answer and each ROW compared with the oracle's. */
public final class RandomRunsTest {
    private static final int CALLS = 24;
    private static int wrong = 0;
    private static int calls = 0;

    private SealedBonds mine = new SealedBonds();
    private Oracle its = new Oracle();
    private final StringBuilder told = new StringBuilder();
    private final Random random;
    private int people;
    private int offices;
    private int bonds;
    private int couples;
    private boolean paired;
    private boolean joined;
    private final int[] firsts = new int[2];
    private final int[] seconds = new int[2];

    private RandomRunsTest(long seed) {
        random = new Random((seed + 1) * 0x9E3779B97F4A7C15L);
    }

    public static void main(String[] args) {
        int runs = args.length > 1 ? Integer.parseInt(args[1]) : 500;
        int first = args.length > 2 ? Integer.parseInt(args[2]) : 0;
        for (int seed = first; seed < first + runs && wrong < 5; seed++) {
            new RandomRunsTest(seed).run();
        }
        System.out.println("RandomRunsTest: " + calls + " calls, " + wrong + " wrong");
        if (wrong != 0) {
            System.exit(1);
        }
    }

    private int below(int n) {
        return n <= 0 ? 0 : random.nextInt(n);
    }

    private void run() {
        // Small markets stand and break in odd ways more often than large ones.
        int size = below(4);
        paired = below(3) == 0;
        joined = below(4) == 0;
        people = size == 0 ? 1 + below(3) : size == 1 ? 2 + below(4) : 3 + below(5);
        offices = 1 + below(size == 0 ? 2 : 4);
        bonds = size == 0 ? below(7) : size == 1 ? 4 + below(8) : size == 2 ? 8 + below(8) : below(30);
        for (int i = 0; i < people; i++) {
            call(0, below(4));
        }
        for (int i = 0; i < offices; i++) {
            call(1);
        }
        for (int i = 0; i < bonds; i++) {
            call(2, below(people), below(offices), below(3) == 0 ? below(100) : 10 * below(4), below(3), below(3));
        }
        bonds = mine.count(2);
        listAll();
        for (int c = 0; paired && c < 2; c++) {
            firsts[c] = below(people);
            seconds[c] = below(people);
            call(5, firsts[c], seconds[c]);
        }
        couples = mine.count(3);
        for (int i = 0; i < 12 * couples; i++) {
            drawPair();
        }
        for (int o = 0; o < offices; o++) {
            if (below(12) > 0) {
                tellText(o, randomText());
            }
        }
        for (int kind = 9; kind < 31; kind++) {
            drawn(kind);
        }
        for (int i = 0; i < 100; i++) {
            drawn(below(CALLS + 7));
        }
    }

    private void drawPair() {
        int c = below(couples);
        call(6, c, below(5) == 0 ? -1 : bondOf(firsts[c]), below(5) == 0 ? -1 : bondOf(seconds[c]));
    }

    private int bondOf(int person) {
        for (int i = 0; i < 40; i++) {
            int bond = below(bonds);
            if (mine.of(bond, 0) == person) {
                return bond;
            }
        }
        return below(bonds + 1) - 1;
    }

    private void listAll() {
        int[] order = new int[bonds];
        for (int i = 0; i < bonds; i++) {
            int j = below(i + 1);
            order[i] = order[j];
            order[j] = i;
        }
        int opposed = below(3);
        for (int i = 0; i < bonds; i++) {
            if (below(10) > 0) {
                call(3, opposed == 0 ? i : order[i]);
            }
        }
    }

    private String randomText() {
        StringBuilder text = new StringBuilder();
        if (joined) {
            // PEOPLE who come together bring back who was refused: then OFFERS may have no outcome, and lies gain.
            text.append("q").append(1 + below(3)).append(";r").append(keys()).append(';').append(two(true));
            return below(2) == 0 ? text.toString() : text.append(';').append(two(below(3) > 0)).toString();
        }
        if (below(2) == 0) {
            // One or two places and an ORDER: what markets with several MATCHINGS that STAND, or with none, are made of.
            text.append("q").append(1 + below(2)).append(";r").append(keys());
            return below(3) > 0 ? text.toString() : text.append(';').append(two(below(3) > 0)).toString();
        }
        int lines = 1 + below(4);
        for (int i = 0; i < lines; i++) {
            text.append(i > 0 ? ";" : "");
            switch (below(9)) {
                case 0: case 1: case 2: text.append("q").append(drawnPlaces()); break;
                case 3: text.append("c").append(below(150)); break;
                case 4: case 5: text.append("r").append(keys()); break;
                case 6: text.append("k").append(below(4)).append("*").append(below(below(2) == 0 ? 3 : 10)); break;
                default: text.append(two(below(2) == 0)); break;
            }
        }
        return text.toString();
    }

    private int drawnPlaces() {
        return below(30) == 0 ? below(1000) : below(5) == 0 ? 5 + below(6) : below(5);
    }

    private String keys() {
        StringBuilder keys = new StringBuilder();
        int many = 1 + below(below(4) == 0 ? 5 : 3);
        for (int i = 0; i < many; i++) {
            keys.append(below(2) == 0 ? '+' : '-').append("pytkn".charAt(below(5)));
        }
        return keys.toString();
    }

    private String two(boolean together) {
        int one = below(Math.min(7, people + 1));
        int other = below(4) == 0 || people < 2 ? (one + 1 + below(6)) % 7 : below(people);
        other = other == one ? (one + 1) % 7 : other;
        return together ? "w" + one + "&" + other : "x" + one + "|" + other;
    }

    private void tellText(int office, String text) {
        for (int i = 0; i < text.length(); i += 4) {
            int v = 0;
            for (int j = 0; j < 4; j++) {
                v = v << 8 | (i + j < text.length() ? text.charAt(i + j) : 0);
            }
            call(7, v);
        }
        call(8, text.length());
        call(9, office);
    }

    private void tellSpoiltText() {
        StringBuilder text = new StringBuilder(randomText());
        int lines = below(8);
        for (int i = 0; i < lines; i++) {
            text.append(';').append(randomText());
        }
        if (below(4) > 0) {
            text.setCharAt(below(text.length()), "qcrkwx;*&|+-pytkn0123456789 z".charAt(below(29)));
        }
        if (below(3) == 0) {
            text.setLength(below(text.length() + 1));
        }
        call(8, 0);
        tellText(below(offices + 1), text.substring(0, Math.min(100, text.length())));
    }

    private int anySet() {
        return below(10) == 0 ? random.nextInt() : random.nextInt() & (1 << bonds) - 1;
    }

    private int matchingSet() {
        if (below(3) > 0) {
            mine.all();
            its.all();
            if (mine.count(5) > 0) {
                return mine.row(below(mine.count(5)));
            }
        }
        return below(2) == 0 ? anySet() & anySet() & anySet() : anySet();
    }

    private int nearly(int n) {
        return below(12) == 0 ? n + below(2) : below(12) == 0 ? -1 - below(2) : below(n);
    }

    private void drawn(int kind) {
        switch (kind) {
            case 0: if (below(8) == 0) call(0, below(6) - 1); break;
            case 1: if (below(8) == 0) { call(1); offices = mine.count(1); } break;
            case 2: if (below(4) == 0) {
                call(2, nearly(people), nearly(offices), below(106) - 3, nearly(10), nearly(10));
                bonds = mine.count(2);
            } break;
            case 3: call(3, nearly(bonds)); break;
            case 4: if (below(6) == 0) call(4, nearly(people)); break;
            case 5: if (below(8) == 0) call(5, nearly(people), nearly(people)); couples = mine.count(3); break;
            case 6: if (couples > 0 && below(2) == 0) drawPair(); else call(6, nearly(couples), below(bonds + 2) - 1, below(bonds + 2) - 1); break;
            case 7: if (below(3) == 0) { call(8, 0); tellText(nearly(offices), randomText()); } break;
            case 8: call(8, below(5) - 1); break;
            case 9: if (below(3) == 0) tellSpoiltText(); break;
            case 10: call(10, nearly(offices), anySet()); break;
            case 11: {
                int bond = nearly(bonds);
                call(11, below(6) > 0 ? mine.of(bond, 1) : nearly(offices), anySet() | 1 << (bond & 31), bond);
                break;
            }
            case 12: call(12, nearly(bonds)); break;
            case 13: call(13, nearly(offices), nearly(2)); break;
            case 14: call(14, matchingSet()); break;
            case 15: call(15); break;
            case 16: call(16); break;
            case 17: call(17, nearly(2)); break;
            case 18: if (mine.all() < 60) { its.all(); call(18, matchingSet(), matchingSet()); } its.all(); mine.all(); break;
            case 19: call(19); break;
            case 20: if (below(2) == 0) call(20); break;
            case 21: call(21, nearly(people)); break;
            case 22: call(22); break;
            case 23: call(23); break;
            case 24: call(24, nearly(bonds)); break;
            case 25: call(25); break;
            case 26: { int what = nearly(2); call(26, what, nearly(what == 0 ? people : bonds)); break; }
            case 27: call(27, nearly(6)); break;
            case 28: call(28, nearly(bonds), nearly(6)); break;
            default: call(7, random.nextInt()); break;
        }
        people = mine.count(0);
    }

    private void call(int kind, int... a) {
        calls++;
        told.append(' ').append(kind).append(java.util.Arrays.toString(a));
        int got = mineAnswers(kind, a);
        int due = itsAnswer(kind, a);
        if (got != due) {
            wrong++;
            System.out.println("calls" + told + ": answered " + got + ", due is " + due);
        }
        for (int i = -1; i <= 41; i++) {
            compareRow(i);
        }
    }

    private void compareRow(int i) {
        Integer got = null;
        Integer due = null;
        try {
            got = mine.row(i);
        } catch (NoSuchElementException none) {
            got = null;
        }
        try {
            due = its.row(i);
        } catch (NoSuchElementException none) {
            due = null;
        }
        if (got == null ? due != null : !got.equals(due)) {
            wrong++;
            System.out.println("calls" + told + ": row " + i + " is " + got + ", due is " + due);
        }
    }

    private int mineAnswers(int kind, int[] a) {
        switch (kind) {
            case 0: return mine.person(a[0]);
            case 1: return mine.office();
            case 2: return mine.bond(a[0], a[1], a[2], a[3], a[4]);
            case 3: return mine.list(a[0]);
            case 4: return mine.clear(a[0]);
            case 5: return mine.couple(a[0], a[1]);
            case 6: return mine.pair(a[0], a[1], a[2]);
            case 7: return mine.sign(a[0]);
            case 8: return mine.end(a[0]) ? 1 : 0;
            case 9: return mine.choice(a[0]);
            case 10: return mine.take(a[0], a[1]);
            case 11: return mine.why(a[0], a[1], a[2]);
            case 12: return mine.order(a[0]);
            case 13: return mine.law(a[0], a[1]);
            case 14: return mine.judge(a[0]);
            case 15: return mine.offer();
            case 16: return mine.all();
            case 17: return mine.best(a[0]);
            case 18: return mine.steps(a[0], a[1]);
            case 19: return mine.near();
            case 20: return mine.places();
            case 21: return mine.gain(a[0]);
            case 22: return mine.left();
            case 23: return mine.same();
            case 24: return mine.lot(a[0]);
            case 25: return mine.mean();
            case 26: return mine.gone(a[0], a[1]);
            case 27: return mine.count(a[0]);
            default: return mine.of(a[0], a[1]);
        }
    }

    private int itsAnswer(int kind, int[] a) {
        switch (kind) {
            case 0: return its.person(a[0]);
            case 1: return its.office();
            case 2: return its.bond(a[0], a[1], a[2], a[3], a[4]);
            case 3: return its.list(a[0]);
            case 4: return its.clear(a[0]);
            case 5: return its.couple(a[0], a[1]);
            case 6: return its.pair(a[0], a[1], a[2]);
            case 7: return its.sign(a[0]);
            case 8: return its.end(a[0]) ? 1 : 0;
            case 9: return its.choice(a[0]);
            case 10: return its.take(a[0], a[1]);
            case 11: return its.why(a[0], a[1], a[2]);
            case 12: return its.order(a[0]);
            case 13: return its.law(a[0], a[1]);
            case 14: return its.judge(a[0]);
            case 15: return its.offer();
            case 16: return its.all();
            case 17: return its.best(a[0]);
            case 18: return its.steps(a[0], a[1]);
            case 19: return its.near();
            case 20: return its.places();
            case 21: return its.gain(a[0]);
            case 22: return its.left();
            case 23: return its.same();
            case 24: return its.lot(a[0]);
            case 25: return its.mean();
            case 26: return its.gone(a[0], a[1]);
            case 27: return its.count(a[0]);
            default: return its.of(a[0], a[1]);
        }
    }
}
