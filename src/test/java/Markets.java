/** Objects in some states, made anew at each call, with fewer than 112 calls. */
final class Markets {
    interface Maker {
        SealedBonds make();
    }

    private Markets() {}

    static SealedBonds empty() {
        return new SealedBonds();
    }

    /**
     * PEOPLE 0 to 3 of KINDS 0 to 3, the first two a COUPLE; OFFICES 0 to 2, the last without a text; six BONDS, of
     * which 5 is not listed. Nothing STANDS. THE TEXT has six signs, the ROW two numbers.
     */
    static SealedBonds small() {
        SealedBonds x = new SealedBonds();
        for (int kind = 0; kind < 4; kind++) {
            x.person(kind);
        }
        for (int o = 0; o < 3; o++) {
            x.office();
        }
        int[][] bonds = {{0, 0}, {1, 1}, {2, 0}, {2, 1}, {3, 0}, {3, 2}};
        for (int[] b : bonds) {
            x.bond(b[0], b[1], 10 + b[0], b[0], b[1]);
        }
        x.couple(0, 1);
        x.pair(0, 0, 1);
        Check.lists(x, 2, 3, 4);
        tell(x, 0, "q1;r-n");
        tell(x, 1, "q1;r+n");
        x.judge(0);
        pending(x, "q2;r+p");
        return x;
    }

    /** All that there can be, but PAIRS of the second COUPLE: 7 PEOPLE, 4 OFFICES, 20 BONDS, 2 COUPLES, 8 PAIRS. */
    static SealedBonds full() {
        SealedBonds x = new SealedBonds();
        for (int p = 0; p < 7; p++) {
            x.person(p % 4);
        }
        for (int o = 0; o < 4; o++) {
            x.office();
        }
        // PERSON 0 has five BONDS, OFFICE 0 eight.
        int[][] bonds = {{0, 0}, {1, 0}, {2, 0}, {0, 1}, {1, 1}, {2, 1}, {3, 0}, {3, 2}, {4, 0}, {4, 3}, {5, 0},
            {5, 3}, {6, 2}, {6, 3}, {0, 2}, {0, 3}, {0, 0}, {1, 0}, {3, 1}, {4, 2}};
        for (int i = 0; i < bonds.length; i++) {
            x.bond(bonds[i][0], bonds[i][1], 5 * i, i % 10, 9 - i % 10);
        }
        x.couple(0, 1);
        x.couple(5, 6);
        int[][] pairs = {{0, 4}, {3, 1}, {14, 17}, {15, -1}, {-1, 4}, {16, 4}, {14, 1}, {3, -1}};
        for (int[] p : pairs) {
            x.pair(0, p[0], p[1]);
        }
        x.pair(1, 10, 12);
        Check.lists(x, 5, 2, 7, 6, 18, 19, 9, 8);
        tell(x, 0, "q2;r-p");
        tell(x, 1, "q1;r+n");
        tell(x, 2, "c150");
        tell(x, 3, "q2;r+t");
        x.all();
        pending(x, "q2;r+p");
        return x;
    }

    /** The small one with a TEXT of so many signs, the first six of which could be a CHOICE. */
    static SealedBonds withSigns(int many) {
        SealedBonds x = small();
        x.end(0);
        pending(x, "q2;r+p" + ";q1".repeat(31) + ";");
        x.end(many);
        return x;
    }

    static void tell(SealedBonds x, int office, String text) {
        pending(x, text);
        x.choice(office);
    }

    static void pending(SealedBonds x, String text) {
        for (int i = 0; i < text.length(); i += 4) {
            int v = 0;
            for (int j = 0; j < 4; j++) {
                v = v << 8 | (i + j < text.length() ? text.charAt(i + j) : 0);
            }
            x.sign(v);
        }
        x.end(text.length());
    }
}
