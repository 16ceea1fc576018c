import java.util.NoSuchElementException;
import java.util.Random;

/** Wild arguments in wild states: nothing but row's own exception ever comes out of a call. */
public final class WildCallsTest {
    private static final String[] LINES = {"q1", "q2", "q3", "q999", "c50", "r+p", "r-n+y", "k0*1", "k1*2", "w0&1", "w2&3",
        "w5&6", "x1|2", "x4|5", "z", "q", "k9"};

    public static void main(String[] args) {
        int calls = 0;
        for (int seed = 0; seed < 2000; seed++) {
            Random random = new Random((seed + 1) * 0x9E3779B97F4A7C15L);
            SealedBonds x = new SealedBonds();
            for (int i = 0; i < 512; i++) {
                if (random.nextInt(3) == 0) {
                    build(x, random);
                } else {
                    wild(x, random);
                }
                calls++;
            }
        }
        Check.holds("calls", calls > 0);
        Check.close("WildCallsTest");
    }

    private static int any(Random random) {
        switch (random.nextInt(8)) {
            case 0: return random.nextInt();
            case 1: return Integer.MIN_VALUE;
            case 2: return Integer.MAX_VALUE;
            case 3: return random.nextInt(1 << 20);
            default: return random.nextInt(24) - 2;
        }
    }

    private static void build(SealedBonds x, Random random) {
        switch (random.nextInt(9)) {
            case 0: x.person(random.nextInt(5)); break;
            case 1: x.office(); break;
            case 2:
            case 3: x.bond(random.nextInt(8), random.nextInt(5), random.nextInt(101), random.nextInt(11), 0); break;
            case 4: x.list(random.nextInt(20)); break;
            case 5: x.couple(random.nextInt(8), random.nextInt(8)); break;
            case 6: x.pair(random.nextInt(2), random.nextInt(21) - 1, random.nextInt(21) - 1); break;
            default: tell(x, random); break;
        }
    }

    private static void tell(SealedBonds x, Random random) {
        StringBuilder text = new StringBuilder(LINES[random.nextInt(LINES.length)]);
        for (int i = random.nextInt(5); i > 0; i--) {
            text.append(';').append(LINES[random.nextInt(LINES.length)]);
        }
        Check.choice(x, random.nextInt(5), text.toString());
    }

    private static void wild(SealedBonds x, Random random) {
        int a = any(random);
        int b = any(random);
        int c = any(random);
        switch (random.nextInt(31)) {
            case 0: x.person(a); break;
            case 1: x.office(); break;
            case 2: x.bond(a, b, c, any(random), any(random)); break;
            case 3: x.list(a); break;
            case 4: x.clear(a); break;
            case 5: x.couple(a, b); break;
            case 6: x.pair(a, b, c); break;
            case 7: x.sign(a); break;
            case 8: x.end(a); break;
            case 9: x.choice(a); break;
            case 10: x.take(a, b); break;
            case 11: x.why(a, b, c); break;
            case 12: x.order(a); break;
            case 13: x.law(a, b); break;
            case 14: x.judge(a); break;
            case 15: x.offer(); break;
            case 16: x.all(); break;
            case 17: x.best(a); break;
            case 18: x.steps(a, b); break;
            case 19: x.near(); break;
            case 20: x.places(); break;
            case 21: x.gain(a); break;
            case 22: x.left(); break;
            case 23: x.same(); break;
            case 24: x.lot(a); break;
            case 25: x.mean(); break;
            case 26: x.gone(a, b); break;
            case 27: x.count(a); break;
            case 28: x.of(a, b); break;
            default: row(x, a); break;
        }
    }

    private static void row(SealedBonds x, int i) {
        boolean there = i >= 0 && i < x.count(5);
        boolean told = true;
        try {
            x.row(i);
        } catch (NoSuchElementException none) {
            told = false;
        }
        Check.holds("row(" + i + ") of " + x.count(5), told == there);
    }
}
