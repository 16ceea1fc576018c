/** The bounds that "Terms" 2 names, and promises 9 to 15: what may stand in a text, and what each LINE allows. */
public final class BoundsOfTextsTest {
    public static void main(String[] args) {
        hundredSigns();
        endOfTheText();
        eachSign();
        numbers();
        oneToFiveKeys();
        keptLines();
        linesOfTwo();
        linesWithSemicolons();
        sixtySigns();
        whichIsAskedFirst();
        manyBonds();
        payTogether();
        keysAndTies();
        keptPlaces();
        togetherOrNeither();
        neverBoth();
        oneBondOfAPerson();
        firstAllowedSet();
        noTextTold();
        inPlaceOfTheFormer();
        Check.close("BoundsOfTextsTest");
    }

    // ---- THE TEXT

    /** Promise 9: "Refused: there would be more than 100." */
    private static void hundredSigns() {
        SealedBonds x = new SealedBonds();
        for (int i = 1; i <= 24; i++) {
            Check.due("sign " + i, x.sign(-i), 4 * i);
        }
        Check.due("to 100", x.sign(0), 100);
        for (int n = 100; n > 96; n--) {
            x.end(n);
            Check.due("four behind " + n, x.sign(0), -1);
            Check.due("signs", x.count(4), n);
        }
        x.end(96);
        Check.due("four behind 96", x.sign(0), 100);
        SealedBonds y = new SealedBonds();
        y.sign(0);
        y.end(1);
        for (int n = 5; n <= 97; n += 4) {
            Check.due("to " + n, y.sign(0), n);
        }
        Check.due("from 97", y.sign(0), -1);
    }

    /** Promise 9: "of v the highest byte first". Promise 10: "its first n signs alone". */
    private static void endOfTheText() {
        SealedBonds x = Check.market(1, 1, Check.b(0, 0));
        x.sign('q' << 24 | '1' << 16 | ';' << 8 | 'z');
        Check.due("the lowest byte last", x.choice(0), -4);
        for (int n = 0; n <= 4; n++) {
            x.sign(0x71313233);
            Check.holds("end(" + n + ")", x.end(n));
            Check.due("signs", x.count(4), n);
            Check.holds("end(" + n + ") again", x.end(n));
            Check.holds("no end(" + (n + 1) + ")", !x.end(n + 1));
            Check.holds("no end(-1)", !x.end(-1));
            Check.due("signs", x.count(4), n);
            x.end(0);
        }
        x.sign(0x71313b7a);
        x.end(3);
        x.sign(0x71320000);
        x.end(5);
        Check.due("four more behind the first three", x.choice(0), 2);
    }

    // ---- what a text is

    private static int told(String text) {
        SealedBonds x = Check.market(1, 1, Check.b(0, 0));
        Check.choice(x, 0, "q1");
        int answer = Check.choice(x, 0, text);
        Check.due(text + ": THE TEXT is empty then", x.count(4), 0);
        if (answer < 0) {
            Check.due(text + ": the former CHOICE stays", x.take(0, 1), 1);
        }
        return answer;
    }

    private static void good(String text, int lines) {
        Check.due(text, told(text), lines);
    }

    /** Promise 11: "-1 - p: the sign at p can't stand there". */
    private static void wrong(String text, int at) {
        Check.due(text, told(text), -1 - at);
    }

    /** Each sign of 0 to 255 behind each beginning of a text with all forms of LINES: it does, or it is told. */
    private static void eachSign() {
        String text = "q12;c3;r+p;k1*2;w1&2;x3|4";
        String digits = "0123456789";
        String forms = "qcrkwx";
        String[] may = {forms, digits, digits + ";", digits + ";", forms, digits, digits + ";", forms, "+-", "pytkn",
            "+-;", forms, "0123", "*", digits, ";", forms, "0123456", "&", "023456", ";", forms, "0123456", "|", "012456",
            ";"};
        for (int at = 0; at <= text.length(); at++) {
            SealedBonds x = new SealedBonds();
            for (int sign = 0; sign < 256; sign++) {
                if (sign % 32 == 0) {
                    x = Check.market(0, 1);
                }
                int answer = Check.choice(x, 0, text.substring(0, at) + (char) sign);
                boolean does = answer > 0 || answer == -2 - at;
                boolean due = may[at].indexOf(sign) >= 0;
                Check.holds("sign " + sign + " behind " + text.substring(0, at) + ": " + answer,
                        due ? does : answer == -1 - at);
            }
        }
    }

    /** Terms 2: "a NUMBER has 1 to 3 digits". */
    private static void numbers() {
        for (String form : new String[] {"q", "c"}) {
            wrong(form, 1);
            good(form + "0", 1);
            good(form + "9", 1);
            good(form + "10", 1);
            good(form + "000", 1);
            good(form + "999", 1);
            wrong(form + "0000", 4);
            wrong(form + "1000", 4);
            wrong(form + ";", 1);
            wrong(form + "/", 1);
            wrong(form + ":", 1);
            wrong(form + "+1", 1);
            wrong(form + " 1", 1);
            wrong(form + "1 ", 2);
            wrong(form + "12/", 3);
            wrong(form + "12:", 3);
        }
    }

    /** Terms 2: "r and one to five KEYS, each + or - and a letter". */
    private static void oneToFiveKeys() {
        wrong("r", 1);
        String keys = "r";
        for (int many = 1; many <= 5; many++) {
            keys += (many % 2 == 0 ? "-" : "+") + "pytkn".charAt(many - 1);
            good(keys, 1);
            good(keys + ";q1", 2);
            wrong(keys + "n", keys.length());
        }
        wrong(keys + "+", 11);
        wrong(keys + "+p", 11);
        wrong(keys + "-n;q1", 11);
        for (String letter : new String[] {"p", "y", "t", "k", "n"}) {
            good("r+" + letter, 1);
            good("r-" + letter, 1);
            wrong("r" + letter, 1);
        }
        for (String other : new String[] {"o", "q", "x", "z", "s", "u", "j", "l", "m", "P", "0", "+", "-", ";"}) {
            wrong("r+" + other, 2);
            wrong("r+p-" + other, 4);
        }
        wrong("r*p", 1);
        wrong("r,p", 1);
        wrong("r.p", 1);
        wrong("r+", 2);
        wrong("r+p-", 4);
        wrong("r+p-y+t-k+", 10);
        wrong("r;", 1);
    }

    /** Terms 2: "k KIND * digit", "(0 .. 3)". */
    private static void keptLines() {
        for (int kind = 0; kind < 4; kind++) {
            for (int digit = 0; digit < 10; digit++) {
                good("k" + kind + "*" + digit, 1);
            }
        }
        wrong("k", 1);
        wrong("k4*1", 1);
        wrong("k/*1", 1);
        wrong("k9*1", 1);
        wrong("k1", 2);
        wrong("k11*1", 2);
        wrong("k1+1", 2);
        wrong("k1*", 3);
        wrong("k1*/", 3);
        wrong("k1*:", 3);
        wrong("k1*;", 3);
        wrong("k1*10", 4);
    }

    /** Terms 2: "w P & P: the two PEOPLE (digits 0 .. 6, unlike)", "x P | P". */
    private static void linesOfTwo() {
        for (int one = 0; one < 8; one++) {
            for (int other = 0; other < 8; other++) {
                String w = "w" + one + "&" + other;
                String x = "x" + one + "|" + other;
                if (one == 7) {
                    wrong(w, 1);
                    wrong(x, 1);
                } else if (other == 7 || other == one) {
                    wrong(w, 3);
                    wrong(x, 3);
                } else {
                    good(w, 1);
                    good(x, 1);
                }
            }
        }
        for (String form : new String[] {"w", "x"}) {
            String between = form.equals("w") ? "&" : "|";
            String not = form.equals("w") ? "|" : "&";
            wrong(form, 1);
            wrong(form + "/" + between + "1", 1);
            wrong(form + "0", 2);
            wrong(form + "0" + not + "1", 2);
            wrong(form + "01", 2);
            wrong(form + "0" + between, 3);
            wrong(form + "0" + between + "/", 3);
            wrong(form + "0" + between + "10", 4);
            wrong(form + "0" + between + "1" + between + "2", 4);
        }
    }

    /** Terms 2: "LINES with ; between". Promise 11: "how many LINES", "its end, if it ends too early". */
    private static void linesWithSemicolons() {
        wrong("", 0);
        wrong(";", 0);
        wrong(";q1", 0);
        wrong("q1;", 3);
        wrong("q1;;q1", 3);
        wrong("q1 q2", 2);
        wrong("q1;Q2", 3);
        wrong("q1;q2;", 6);
        good("q1", 1);
        good("q1;q1", 2);
        good("c1;q1;c1", 3);
        good("r+p;r-p;k0*1;k0*1;w0&1;w0&1;x0|1;x0|1;q1;c1", 10);
    }

    /** Terms 2: "a text of at most 60 signs". Promise 11: "60, if it has more and the first 60 could go on or end". */
    private static void sixtySigns() {
        String whole = "q1;".repeat(19) + "q12";
        Check.due("signs", whole.length(), 60);
        good(whole.substring(0, 59), 20);
        good(whole, 20);
        String[] more = {";", "3", "z", "\0", ";q1", "4;c1", "5".repeat(40), ";q1".repeat(13)};
        for (String m : more) {
            wrong(whole + m, 60);
        }
        String[] goOn = {"q1;".repeat(20), "q1;".repeat(19) + "c9;",
            "q1;".repeat(18) + "r+p-y-", "q1;".repeat(18) + "c1;k1*", "q1;".repeat(18) + "q12;x3",
            "q1;".repeat(18) + "q1;c1;"};
        for (String text : goOn) {
            Check.due("signs of " + text, text.length(), 60);
            wrong(text, 60);
            wrong(text + "z", 60);
            wrong(text + "q1;q1", 60);
        }
        String[] cantGoOn = {"q1;".repeat(19) + "q1z", "q1;".repeat(19) + ";q1", "q1;".repeat(19) + "qq1",
            "q1;".repeat(18) + "k1*23;"};
        int[] at = {59, 57, 58, 58};
        for (int i = 0; i < at.length; i++) {
            wrong(cantGoOn[i], at[i]);
            wrong(cantGoOn[i] + "q1", at[i]);
            wrong(cantGoOn[i] + "q".repeat(40), at[i]);
        }
        wrong("q1;".repeat(33) + "z", 60);
        wrong("z" + "q1;".repeat(33), 0);
    }

    /** Promise 11: "-100: no such OFFICE (asked first)". */
    private static void whichIsAskedFirst() {
        for (String text : new String[] {"", "z", "q1", "q1;", "q1;".repeat(30)}) {
            for (int office : new int[] {-1, 2, 4, Integer.MIN_VALUE, Integer.MAX_VALUE}) {
                SealedBonds x = Check.market(0, 2);
                Check.due("choice(" + office + ") of " + text, Check.choice(x, office, text), -100);
                Check.due("THE TEXT is empty then", x.count(4), 0);
            }
        }
        SealedBonds x = Check.market(0, 2);
        Check.due("the last OFFICE", Check.choice(x, 1, "q1"), 1);
        Check.due("the first OFFICE", Check.choice(x, 0, "z"), -1);
    }

    // ---- what each LINE allows

    /** Seven PEOPLE of KINDS 0 1 2 3 0 1 2 with a BOND each, of PAY 99. */
    private static SealedBonds seven(String text) {
        SealedBonds x = new SealedBonds();
        x.office();
        for (int p = 0; p < 7; p++) {
            x.person(p % 4);
            x.bond(p, 0, 99, p, 9 - p);
        }
        Check.holds(text, Check.choice(x, 0, text) > 0);
        return x;
    }

    private static void takes(String text, int offered, int due) {
        Check.due(text + " of " + offered, seven(text).take(0, offered), due);
    }

    /** Terms 2: "q NUMBER: at most so many BONDS (.. the one told last counts; without q: 8)". */
    private static void manyBonds() {
        for (int q = 0; q <= 9; q++) {
            takes("q" + q, 127, (1 << Math.min(7, q)) - 1);
        }
        takes("q007", 127, 127);
        takes("q006", 127, 63);
        takes("q010", 127, 127);
        takes("q100", 127, 127);
        takes("q999", 127, 127);
        takes("q2;q3", 127, 7);
        takes("q3;q2", 127, 3);
        takes("q0;q1", 127, 1);
        takes("q1;q0", 127, 0);
        takes("r+n", 127, 127);
        // Only KEPT places show that it is eight: no OFFICE has BONDS of more than seven PEOPLE.
        takes("k3*1", 127, 127);
        takes("k3*2", 127, 127);
        takes("k3*3", 127, 63);
        takes("k3*8", 127, 8);
        takes("q8;k3*3", 127, 63);
        takes("q7;k3*3", 127, 0b0011111);
        takes("q9;k3*3", 127, 127);
    }

    /** Terms 2: "c NUMBER: PAY together at most that (without: no bound)". */
    private static void payTogether() {
        takes("c0", 127, 0);
        takes("c98", 127, 0);
        takes("c99", 127, 1);
        takes("c197", 127, 1);
        takes("c198", 127, 3);
        takes("c692", 127, 63);
        takes("c693", 127, 127);
        takes("c999", 127, 127);
        takes("q8", 127, 127);
        takes("c99;c198", 127, 3);
        takes("c198;c99", 127, 1);
        takes("c099", 127, 1);
        SealedBonds x = Check.market(2, 1);
        x.bond(0, 0, 0, 0, 0);
        x.bond(1, 0, 1, 0, 0);
        Check.choice(x, 0, "c0");
        Check.due("PAY 0 costs nothing", x.take(0, 3), 1);
        Check.choice(x, 0, "c1");
        Check.due("PAY 1", x.take(0, 3), 3);
    }

    /** Terms 2: "by the first KEY, of equal ones the second, and so on, then by number, the less ahead". */
    private static void keysAndTies() {
        SealedBonds x = new SealedBonds();
        x.office();
        x.person(1);
        x.person(0);
        x.person(1);
        int[][] told = {{0, 5, 2, 9}, {1, 5, 2, 0}, {2, 4, 2, 5}, {0, 5, 2, 9}, {1, 5, 3, 0}};
        for (int[] t : told) {
            x.bond(t[0], 0, t[1], t[2], t[3]);
        }
        orders(x, "q1", 0, 1, 2, 3, 4);
        orders(x, "r+p", 0, 1, 3, 4, 2);
        orders(x, "r-p", 2, 0, 1, 3, 4);
        orders(x, "r+y", 4, 0, 1, 2, 3);
        orders(x, "r-y", 0, 1, 2, 3, 4);
        orders(x, "r+t", 0, 3, 2, 1, 4);
        orders(x, "r-t", 1, 4, 2, 0, 3);
        orders(x, "r+k", 0, 2, 3, 1, 4);
        orders(x, "r-k", 1, 4, 0, 2, 3);
        orders(x, "r+n", 2, 1, 4, 0, 3);
        orders(x, "r-n", 0, 3, 1, 4, 2);
        orders(x, "r+p+y", 4, 0, 1, 3, 2);
        orders(x, "r+p-y+n", 1, 0, 3, 4, 2);
        orders(x, "r+p-y-k", 1, 0, 3, 4, 2);
        orders(x, "r+p-y+k-t+n", 0, 3, 1, 4, 2);
        orders(x, "r-k-p-t-n+y", 4, 1, 2, 0, 3);
        orders(x, "r+p-p", 0, 1, 3, 4, 2);
        orders(x, "r+t;r+p", 0, 1, 3, 4, 2);
        orders(x, "r+p+y;r-y", 0, 1, 2, 3, 4);
        orders(x, "r-t;q1", 1, 4, 2, 0, 3);
        orders(x, "q1", 0, 1, 2, 3, 4);
    }

    /** The BONDS by the ORDER of the text. */
    private static void orders(SealedBonds x, String text, int... bonds) {
        Check.choice(x, 0, text);
        for (int i = 0; i < bonds.length; i++) {
            Check.due(text + ": order(" + bonds[i] + ")", x.order(bonds[i]), i);
        }
    }

    /** Terms 2: "at most as many as what q tells, less that digit (0 at least); each line counts". */
    private static void keptPlaces() {
        takes("q3;k0*0", 127, 7);
        takes("q3;k0*1", 127, 7);
        takes("q3;k0*2", 127, 0b0010011);
        takes("q3;k0*3", 127, 0b0010001);
        takes("q3;k0*4", 127, 0b0010001);
        takes("q3;k0*9", 127, 0b0010001);
        takes("q0;k0*9", 127, 0);
        takes("k0*2;q3", 127, 0b0010011);
        takes("q3;k0*2;q4", 127, 0b0010111);
        takes("q4;k0*2;q3", 127, 0b0010011);
        takes("q3;k0*2;k0*1", 127, 0b0010011);
        takes("q3;k0*1;k0*2", 127, 0b0010011);
        takes("q3;k0*3;k1*1", 127, 0b0010001);
        takes("q3;k0*2;k1*2", 127, 3);
        takes("q3;k0*2;k1*3", 127, 2);
        takes("q3;k0*3;k1*3", 127, 0);
        takes("q1;k1*1", 125, 32);
        takes("q1;k1*1", 93, 0);
    }

    /** Terms 2: "w P & P: the two PEOPLE together or neither; .. each line counts". */
    private static void togetherOrNeither() {
        takes("w0&6", 65, 65);
        takes("w0&6", 64, 0);
        takes("w0&6", 1, 0);
        takes("w6&0", 65, 65);
        takes("w6&0", 63, 62);
        takes("q2;w0&6", 127, 65);
        takes("q1;w0&6", 127, 2);
        takes("w0&1;w2&3", 7, 3);
        takes("w0&1;w2&3", 14, 12);
        takes("w0&1;w0&2", 7, 7);
        takes("w0&1;w0&2", 3, 0);
        takes("w0&1;w0&1", 3, 3);
        takes("w0&1;w2&1", 6, 0);
        takes("w0&1;w2&1", 3, 0);
        takes("w1&0;w1&2", 5, 0);
        takes("w1&0;w1&2", 7, 7);
        SealedBonds x = Check.market(1, 1, Check.b(0, 0));
        Check.choice(x, 0, "w0&1");
        Check.due("with nobody", x.take(0, 1), 0);
        x.person(0);
        Check.due("with one who has no BOND", x.take(0, 1), 0);
        x.bond(1, 0, 0, 0, 0);
        Check.due("without the other", x.take(0, 1), 0);
        Check.due("with the other", x.take(0, 3), 3);
    }

    /** Terms 2: "x P | P: never both; each line counts". */
    private static void neverBoth() {
        takes("x0|6", 127, 63);
        takes("x0|6", 126, 126);
        takes("x6|0", 65, 1);
        takes("r+n;x6|0", 65, 64);
        takes("x0|1;x0|2", 127, 0b1111001);
        takes("x0|1;x1|2", 127, 0b1111101);
        takes("x0|1;x0|1", 3, 1);
        SealedBonds x = Check.market(1, 1, Check.b(0, 0));
        Check.choice(x, 0, "x0|1");
        Check.due("with nobody", x.take(0, 1), 1);
        x.person(0);
        x.bond(1, 0, 0, 0, 0);
        Check.due("with the other", x.take(0, 3), 1);
        Check.due("the other", x.take(0, 2), 2);
    }

    /** Terms 2: "A set is ALLOWED, if it has one BOND of a PERSON at most". */
    private static void oneBondOfAPerson() {
        SealedBonds x = Check.market(2, 1, Check.b(0, 0), Check.b(0, 0), Check.b(1, 0), Check.b(0, 0), Check.b(1, 0));
        Check.choice(x, 0, "q8");
        Check.due("one of each", x.take(0, 31), 5);
        Check.due("the next of each", x.take(0, 26), 18);
        Check.choice(x, 0, "w0&1");
        Check.due("together, one of each", x.take(0, 31), 5);
        Check.due("two of one are not together", x.take(0, 11), 0);
    }

    /** Terms 2: "of two sets the one is first that has the first BOND by the ORDER that not both have". */
    private static void firstAllowedSet() {
        SealedBonds x = Check.market(4, 1);
        int[] pay = {60, 50, 50, 10};
        for (int p = 0; p < 4; p++) {
            x.bond(p, 0, pay[p], 0, 0);
        }
        Check.choice(x, 0, "c100");
        Check.due("the first one, and what it leaves room for", x.take(0, 15), 9);
        Check.due("without the first one", x.take(0, 14), 6);
        Check.due("more is ahead of less", x.take(0, 9), 9);
        Check.choice(x, 0, "c100;w0&2");
        Check.due("the first one can't be", x.take(0, 15), 10);
        Check.choice(x, 0, "c110;w0&2");
        Check.due("the first one just can be", x.take(0, 15), 5);
        Check.choice(x, 0, "c60;r-p");
        Check.due("by the ORDER, not by number", x.take(0, 15), 10);
    }

    /** Terms 2: "At first (no text told): nothing is ALLOWED but the empty set." */
    private static void noTextTold() {
        SealedBonds x = Check.market(2, 2, Check.b(0, 0), Check.b(1, 0), Check.b(1, 1));
        Check.lists(x, 0, 1, 2);
        Check.due("take", x.take(0, 3), 0);
        Check.due("take of none", x.take(0, 0), 0);
        Check.due("why", x.why(0, 3, 0), 6);
        Check.due("by number", x.order(1), 1);
        Check.due("faith", x.law(0, 0), 1);
        Check.due("up", x.law(0, 1), 1);
        Check.due("one is not FREE", x.judge(1), 2);
        Check.due("nothing STANDS but the empty one", x.all(), 1);
        Check.row("nothing STANDS but the empty one", x, 0);
        Check.due("all offered for nothing", x.offer(), 0);
        Check.row("all offered for nothing", x, 2, 3);
        Check.choice(x, 1, "q1");
        Check.due("the other OFFICE's text is not its own", x.take(0, 3), 0);
        Check.due("the other OFFICE takes", x.take(1, 7), 4);
        Check.due("a wrong text", Check.choice(x, 0, "q1;"), -4);
        Check.due("still nothing", x.take(0, 3), 0);
        Check.choice(x, 0, "q0");
        Check.due("q0: too many", x.why(0, 3, 0), 2);
    }

    /** Promise 11: "is an OFFICE's CHOICE in place of the one it had": nothing of the former ones is left. */
    private static void inPlaceOfTheFormer() {
        String[] former = {"q1", "c99", "r+n", "k3*9", "w0&6", "x0|1", "q1;c99;r+n;k3*9;w0&6;x0|1"};
        for (String text : former) {
            SealedBonds x = seven(text);
            for (int times = 1; times <= 3; times++) {
                Check.due(text + ", then another", Check.choice(x, 0, "q8"), 1);
                Check.due(text + ", then another: take", x.take(0, 127), 127);
                Check.due(text + ", then another: order", x.order(6), 6);
                Check.due(text + ", then another, without q", Check.choice(x, 0, "r+p"), 1);
                Check.due(text + ", then another, without q: take", x.take(0, 127), 127);
                Check.due(text + ", then another, without q: order", x.order(6), 6);
                Check.choice(x, 0, text);
                Check.due(text + " once more", x.take(0, 127), seven(text).take(0, 127));
                Check.due(text + ", cut off", Check.choice(x, 0, "c1;" + text + ";"), -5 - text.length());
                Check.due(text + " stays", x.take(0, 127), seven(text).take(0, 127));
            }
        }
        SealedBonds two = Check.market(2, 2, Check.b(0, 0), Check.b(1, 0), Check.b(0, 1), Check.b(1, 1));
        Check.choice(two, 0, "q1");
        Check.choice(two, 1, "q2");
        Check.choice(two, 0, "r+n");
        Check.due("of the first OFFICE", two.take(0, 15), 3);
        Check.choice(two, 0, "q0");
        Check.due("of the other OFFICE still", two.take(1, 15), 12);
    }
}
