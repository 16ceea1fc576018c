/** Promises 9 to 15: THE TEXT, CHOICES and their laws. */
public final class ChoiceTest {
    public static void main(String[] args) {
        sign();
        end();
        wrongTexts();
        longTexts();
        goodTexts();
        take();
        takeTogether();
        why();
        order();
        laws();
        Check.close("ChoiceTest");
    }

    private static void sign() {
        SealedBonds x = new SealedBonds();
        for (int i = 1; i <= 25; i++) {
            Check.due("sign " + i, x.sign(0x71310000), 4 * i);
        }
        Check.due("sign 26", x.sign(0), -1);
        Check.due("signs", x.count(4), 100);
        x.end(97);
        Check.due("97 and four", x.sign(0), -1);
        x.end(96);
        Check.due("96 and four", x.sign(0), 100);
        x.office();
        x.end(2);
        Check.due("the highest byte first", x.choice(0), 1);
        x.sign(0xFF000000);
        Check.due("a sign above 127", x.choice(0), -1);
    }

    private static void end() {
        SealedBonds x = new SealedBonds();
        Check.due("end(1) of none", x.end(1) ? 1 : 0, 0);
        Check.due("end(0) of none", x.end(0) ? 1 : 0, 1);
        x.sign(0x71323334);
        Check.due("end(5)", x.end(5) ? 1 : 0, 0);
        Check.due("end(-1)", x.end(-1) ? 1 : 0, 0);
        Check.due("end(least)", x.end(Integer.MIN_VALUE) ? 1 : 0, 0);
        Check.due("nothing changed", x.count(4), 4);
        Check.due("end(4)", x.end(4) ? 1 : 0, 1);
        Check.due("end(3)", x.end(3) ? 1 : 0, 1);
        Check.due("signs", x.count(4), 3);
        Check.due("what was cut is gone", x.end(4) ? 1 : 0, 0);
    }

    private static void wrong(String text, int at) {
        SealedBonds x = Check.market(1, 1, Check.b(0, 0));
        Check.choice(x, 0, "q1");
        Check.due("choice " + text, Check.choice(x, 0, text), -1 - at);
        Check.due("choice " + text + ": THE TEXT", x.count(4), 0);
        Check.due("choice " + text + ": the former one stays", x.take(0, 1), 1);
    }

    private static void wrongTexts() {
        wrong("", 0);
        wrong("z", 0);
        wrong(" q1", 0);
        wrong(";", 0);
        wrong("q", 1);
        wrong("q;", 1);
        wrong("q-1", 1);
        wrong("q1234", 4);
        wrong("q1;", 3);
        wrong("q1;;", 3);
        wrong("q1,c2", 2);
        wrong("c", 1);
        wrong("c12x", 3);
        wrong("r", 1);
        wrong("rp", 1);
        wrong("r+", 2);
        wrong("r+q", 2);
        wrong("r+p-", 4);
        wrong("r+pp", 3);
        wrong("r+p-y+t-k+n-p", 11);
        wrong("k4*1", 1);
        wrong("k0", 2);
        wrong("k0&1", 2);
        wrong("k0*", 3);
        wrong("k0*12", 4);
        wrong("w7&1", 1);
        wrong("w0|1", 2);
        wrong("w0&0", 3);
        wrong("w0&7", 3);
        wrong("w0&", 3);
        wrong("w0&12", 4);
        wrong("x0&1", 2);
        wrong("x6|6", 3);
        wrong("x0|7", 3);
        wrong("x", 1);
        SealedBonds x = Check.market(0, 1);
        Check.text(x, "q1");
        Check.due("no such office", x.choice(1), -100);
        Check.text(x, "zz");
        Check.due("no such office is asked first", x.choice(-1), -100);
        Check.due("THE TEXT is empty then", x.count(4), 0);
    }

    private static void longTexts() {
        String sixty = "q1;q1;q1;q1;q1;q1;q1;q1;q1;q1;q1;q1;q1;q1;q1;q1;q1;q1;q1;q12";
        Check.due("signs", sixty.length(), 60);
        SealedBonds x = Check.market(1, 1, Check.b(0, 0));
        Check.due("sixty signs", Check.choice(x, 0, sixty), 20);
        wrong(sixty + "3", 60);
        wrong(sixty + ";q1", 60);
        wrong(sixty + "zzz", 60);
        String goesOn = sixty.substring(0, 59);
        wrong(goesOn + ";", 60);
        wrong(goesOn + ";q", 60);
        wrong(goesOn + "z;q", 59);
        wrong("q1z" + sixty, 2);
    }

    private static void goodTexts() {
        String[] good = {"q0", "q999", "c007", "r-n", "r+p-y+t-k+n", "r+p+p+p+p+p", "k3*9", "w6&0", "x0|6"};
        SealedBonds x = Check.market(0, 1);
        for (String text : good) {
            Check.due(text, Check.choice(x, 0, text), 1);
        }
        Check.due("all kinds", Check.choice(x, 0, "q1;c2;r+p;k0*1;w0&1;x2|3;q2"), 7);
    }

    /** BONDS 0 to 4 of PEOPLE 0 to 4 (KINDS 0 1 2 3 0) with PAY 10 to 50, and 5 of PERSON 0 with PAY 60. */
    private static SealedBonds five() {
        SealedBonds x = new SealedBonds();
        x.office();
        x.office();
        for (int p = 0; p < 5; p++) {
            x.person(p % 4);
            x.bond(p, 0, 10 * (p + 1), p, 9 - p);
        }
        x.bond(0, 0, 60, 0, 0);
        return x;
    }

    private static int taken(String text, int offered) {
        SealedBonds x = five();
        Check.choice(x, 0, text);
        return x.take(0, offered);
    }

    private static void take() {
        Check.due("one of a person", taken("q9", 63), 31);
        Check.due("no text", five().take(0, 63), 0);
        Check.due("q0", taken("q0", 63), 0);
        Check.due("q3", taken("q3", 63), 7);
        Check.due("q told last", taken("q3;q2", 63), 3);
        Check.due("c60", taken("c60", 63), 7);
        Check.due("c told last", taken("c60;c29", 63), 1);
        Check.due("c 0", taken("c0", 63), 0);
        Check.due("c passes over what is too dear", taken("c50;r+n", 63), 16);
        Check.due("c: next behind the dear one", taken("c40", 60), 4);
        Check.due("r+p", taken("q2;r+p", 63), 48);
        Check.due("r told last", taken("q2;r+p;r-p", 63), 3);
        Check.due("kept", taken("q3;k1*2", 63), 3);
        Check.due("kept for nobody", taken("q3;k1*9", 63), 2);
        Check.due("two kept lines", taken("q3;k1*1;k2*2", 63), 5);
        Check.due("the stricter of one kind", taken("q3;k1*3;k1*1", 63), 2);
        Check.due("without q of eight", taken("k0*7", 63), 19);
        Check.due("kept counts what q tells last", taken("q1;k0*1;q2", 63), 3);
        Check.due("never both", taken("x0|1", 63), 29);
        Check.due("never both, the other way", taken("x1|0;x3|2", 63), 21);
        SealedBonds x = five();
        x.bond(4, 1, 1, 1, 1);
        Check.choice(x, 0, "q8");
        Check.due("those of others are left aside", x.take(0, 127), 31);
        Check.due("none offered", x.take(0, 64), 0);
        Check.due("no such office", x.take(2, 1), -1);
        Check.due("below", x.take(-1, 1), -1);
        Check.due("no such bond", x.take(0, 128), -1);
        Check.due("below 0", x.take(0, -1), -1);
    }

    private static void takeTogether() {
        Check.due("together", taken("w0&1", 3), 3);
        Check.due("neither", taken("w0&1", 1), 0);
        Check.due("the other alone", taken("w0&1", 6), 4);
        Check.due("too few places for both", taken("q1;w0&1", 7), 4);
        Check.due("both for the sake of the first", taken("q2;w0&4", 63), 17);
        Check.due("with one who is not there", taken("w0&6", 63), 30);
        Check.due("three in a chain", taken("w0&1;w1&2", 31), 31);
        Check.due("the chain broken", taken("w0&1;w1&2", 27), 24);
        Check.due("together and never both", taken("w0&1;x1|0", 31), 28);
        Check.due("one with two others", taken("w0&1;w0&2", 5), 0);
        Check.due("one with two others", taken("w1&0;w2&0", 7), 7);
        Check.due("never with two others", taken("x0|1;x0|2", 31), 25);
        Check.due("the dearer bond of the first one", taken("r+p;w0&4;q2", 63), 48);
    }

    private static void why() {
        SealedBonds x = five();
        x.bond(4, 1, 1, 1, 1);
        Check.due("no text", x.why(0, 63, 0), 6);
        Check.choice(x, 0, "q2;c30;k0*1;x0|2");
        Check.due("take", x.take(0, 63), 3);
        Check.due("taken", x.why(0, 63, 1), 0);
        Check.due("two, ahead of too many", x.why(0, 63, 5), 1);
        Check.due("too many, ahead of too dear", x.why(0, 63, 2), 2);
        Check.due("too dear, ahead of never both", x.why(0, 5, 2), 3);
        Check.due("not offered", x.why(0, 62, 0), -1);
        Check.due("of another office", x.why(0, 127, 6), -1);
        Check.due("no such bond", x.why(0, 127, 7), -1);
        Check.due("below", x.why(0, 127, -1), -1);
        Check.due("no such office", x.why(2, 1, 0), -1);
        Check.due("no such set", x.why(0, 128, 0), -1);
        Check.choice(x, 0, "q2;k0*1;x0|2");
        Check.due("kept places, alone", x.why(0, 6, 2), 4);
        Check.due("never both", x.why(0, 5, 2), 5);
        Check.choice(x, 0, "q2;k2*2;x0|1");
        Check.due("kept places, ahead of never both", x.why(0, 3, 1), 4);
        Check.choice(x, 0, "q2;c30;x0|1");
        Check.due("just as many and as dear as may be", x.why(0, 3, 1), 5);
        Check.choice(x, 0, "r-p;q3;w1&4");
        Check.due("take", x.take(0, 31), 19);
        Check.due("what is taken behind does not count", x.why(0, 31, 2), 6);
        Check.due("what is taken ahead does", x.why(0, 63, 5), 1);
    }

    private static void order() {
        SealedBonds x = new SealedBonds();
        x.office();
        x.office();
        int[][] told = {{0, 20, 1, 5}, {1, 20, 2, 5}, {2, 10, 2, 5}, {1, 20, 2, 4}};
        for (int p = 0; p < 3; p++) {
            x.person(2 - p);
        }
        for (int[] t : told) {
            x.bond(t[0], 0, t[1], t[2], t[3]);
        }
        x.bond(0, 1, 0, 0, 0);
        places(x, "by number", 0, 1, 2, 3);
        Check.choice(x, 0, "q1");
        places(x, "without r", 0, 1, 2, 3);
        Check.choice(x, 0, "r+p");
        places(x, "r+p", 0, 1, 3, 2);
        Check.choice(x, 0, "r-p+y-t");
        places(x, "r-p+y-t", 3, 2, 0, 1);
        Check.choice(x, 0, "r+k");
        places(x, "r+k", 0, 1, 3, 2);
        Check.choice(x, 0, "r+n-t");
        places(x, "r+n-t", 3, 2, 0, 1);
        Check.choice(x, 0, "r-y+t-n+p-k");
        places(x, "r-y+t-n+p-k", 0, 1, 2, 3);
        Check.due("of the other office", x.order(4), 0);
        Check.due("order(-1)", x.order(-1), -1);
        Check.due("order(5)", x.order(5), -1);
    }

    private static void places(SealedBonds x, String what, int... places) {
        for (int b = 0; b < places.length; b++) {
            Check.due(what + ": order(" + b + ")", x.order(b), places[b]);
        }
    }

    private static void laws() {
        SealedBonds x = five();
        Check.due("no text", x.law(0, 0), 1);
        Check.due("no bonds", x.law(1, 1), 1);
        Check.choice(x, 0, "q2;r+p");
        Check.due("faith", x.law(0, 0), 1);
        Check.due("up", x.law(0, 1), 1);
        Check.row("nothing told", x);
        Check.choice(x, 0, "w1&2");
        Check.due("together: faith", x.law(0, 0), 0);
        Check.row("together: faith", x, 2, 2, 1);
        Check.due("together: up", x.law(0, 1), 1);
        Check.row("together: up says nothing", x, 2, 2, 1);
        Check.choice(x, 0, "c50;r+p");
        Check.due("pay: up", x.law(0, 1), 0);
        Check.row("pay: up", x, 3, 4);
        Check.due("law(2, 0)", x.law(2, 0), -1);
        Check.due("law(-1, 0)", x.law(-1, 0), -1);
        Check.due("law(0, 2)", x.law(0, 2), -1);
        Check.due("law(0, -1)", x.law(0, -1), -1);
        Check.row("refused", x, 3, 4);
    }
}
