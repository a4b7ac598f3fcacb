/** Promises 1 to 4: a new object, feed, line, fault. */
public final class LineTextTest {
    private static final int UNKNOWN = EdgeEchoes.UNKNOWN, OUTSIDE = EdgeEchoes.OUTSIDE;
    private static final int NOT = EdgeEchoes.NOT, FULL = EdgeEchoes.FULL, NONE = EdgeEchoes.NONE;

    public static void main(String[] args) {
        newObject();
        feed();
        lineAsToldAnew();
        blankTexts();
        goodTexts();
        strayLetters();
        badNumbers();
        again();
        firstOfSeveral();
        faultKeepsAll();
        Due.end();
    }

    private static void newObject() {
        EdgeEchoes x = new EdgeEchoes();
        for (int what = 0; what <= 17; what++) {
            Due.is("new told(" + what + ")", x.told(what), what == 14 ? NONE : 0);
        }
        Due.is("new fault()", x.fault(), NONE);
        Due.is("new wire(0, 0)", x.wire(0, 0), UNKNOWN);
        Due.is("new cell(0, 0)", x.cell(0, 0), 1000000);
        Due.is("new cell(71, 2)", x.cell(71, 2), 1000000);
        Due.is("new place(1)", x.place(1), NONE);
        Due.is("new gate(0, 0)", x.gate(0, 0), UNKNOWN);
        Due.is("new tick(1)", x.tick(1), NOT);
        Due.is("new drive(true)", x.drive(true), NOT);
        Due.is("new cut(1)", x.cut(1), NOT);
        Due.is("new brief(1)", x.brief(1), NOT);
        Due.is("new mend(1)", x.mend(1), NOT);
        Due.is("new piece(0, 1)", x.piece(0, 1), UNKNOWN);
        Due.is("new end(0, 1)", x.end(0, 1), NOT);
        Due.is("new ohms(1)", x.ohms(1), NOT);
        Due.is("new quiet()", x.quiet(), NOT);
        Due.is("new drift(1)", x.drift(1), NOT);
        Due.is("new undo(1)", x.undo(1), NOT);
        Due.is("new volts(0, 9, 1)", x.volts(0, 9, 1), 1000000);
        Due.is("new rest(0)", x.rest(0), 0);
        Due.is("new sees(0, 1, 0)", x.sees(0, 1, 0), UNKNOWN);
        Due.is("new couldBe(0)", x.couldBe(0), 0);
        Due.is("new couldBe(1)", x.couldBe(1), NONE);
        Due.is("new couldBe(2)", x.couldBe(2), NONE);
        Due.is("new look()", x.look(), NONE);
        Due.is("new write(0, 0)", x.write(0, 0), UNKNOWN);
        Due.is("new judge()", x.judge(), NONE);
        Due.is("new tear()", x.tear(), 0);
        Due.is("new goBack(0)", x.goBack(0), NOT);
        Due.is("new seed(0)", x.seed(0), 0);
    }

    private static void feed() {
        EdgeEchoes x = new EdgeEchoes();
        Due.is("feed(-1)", x.feed(-1), OUTSIDE);
        Due.is("feed(256)", x.feed(256), OUTSIDE);
        Due.is("feed(max)", x.feed(Integer.MAX_VALUE), OUTSIDE);
        Due.is("feed(0)", x.feed(0), 1);
        Due.is("feed(255)", x.feed(255), 2);
        for (int i = 3; i <= 240; i++) {
            Due.is("feed " + i, x.feed(' '), i);
        }
        Due.is("feed 241", x.feed(' '), FULL);
        Due.is("feed 241 outside", x.feed(256), OUTSIDE);
        Due.is("told(4) full", x.told(4), 240);
        Due.is("line of letter 0", x.line(), -11);
        Due.is("told(4) behind line()", x.told(4), 0);
        Due.is("feed behind line()", x.feed('d'), 1);
    }

    private static void lineAsToldAnew() {
        EdgeEchoes x = Due.lineOf("d10 5;p50 3;e2 7;g3 0 2;");
        x.seed(77);
        x.drive(true);
        x.tick(5);
        x.cut(1);
        x.see(1, 1, true);
        x.write(0, 1);
        Due.is("told(17) ahead", x.told(17), 3);
        x.keep(0);
        x.keep(1);
        x.cut(2);
        // Trials with all that could be left over by them.
        x.told(12);
        x.sees(0, 9, 1);
        Due.is("line anew", Due.told(x, "d1 2;p3 4;p5 6;g0 1 2;g1 2 3;"), 10);
        int[] due = {1, 2, 10, 2, 0, 1, 2, 0, 0, 0, 0, 0};
        for (int what = 0; what < due.length; what++) {
            Due.is("anew told(" + what + ")", x.told(what), due[what]);
        }
        Due.is("anew SEEN", x.told(15), 0);
        Due.is("anew BOOK", x.told(16), 0);
        Due.is("anew undone", x.told(17), 0);
        Due.is("anew undo(1)", x.undo(1), NOT);
        Due.is("anew goBack(0)", x.goBack(0), NOT);
        Due.is("anew goBack(1)", x.goBack(1), NOT);
        for (int i = 0; i < 72; i++) {
            Due.is("anew cell " + i, x.cell(i, 1) + x.cell(i, 2), 2000000);
        }
        for (int i = 1; i < 72; i++) {
            Due.is("anew place " + i, x.place(i), i < 10 ? 0 : NONE);
        }
        Due.is("anew gate(0, 4)", x.gate(0, 4), 0);
        Due.is("seed stays", x.seed(0), 77);
    }

    private static void blankTexts() {
        for (String text : new String[] {"", " ", "      "}) {
            EdgeEchoes x = Due.lineOf("d10 5;p50 3;g0 0 1;");
            x.keep(0);
            x.cut(1);
            x.see(1, 1, true);
            x.write(0, 0);
            Due.is("line of '" + text + "'", Due.told(x, text), 0);
            Due.is("fault of blanks", x.fault(), NONE);
            for (int what = 0; what <= 17; what++) {
                Due.is("blank told(" + what + ")", x.told(what), what == 14 ? NONE : 0);
            }
            Due.is("blank goBack(0)", x.goBack(0), NOT);
            Due.is("blank tick(1)", x.tick(1), NOT);
            Due.is("blank wire(0, 0)", x.wire(0, 0), UNKNOWN);
        }
    }

    private static void goodTexts() {
        good("d0 1;", 0);
        good("d99 99;", 0);
        good(" d 1  2 ; ", 0);
        good("d001 010;", 0);
        good("d0 1;p1 1;", 1);
        good("d0 1;p99 9;p1 9;p1 9;p1 9;p1 9;p1 9;p1 9;p1 9;", 72);
        good("d0 1;e0 1;", 0);
        good("d0 1;e2 99;p1 1;", 1);
        good("d0 1;g0 0 1;g3 71 99;g0 0 1;g0 0 1;g0 0 1;g0 0 1;", 0);
        good("d0 1;g0 0 1;e1 1;p2 2;g1 1 1;p3 3;", 5);
    }

    private static void good(String text, int cells) {
        EdgeEchoes x = new EdgeEchoes();
        Due.told(x, "x");
        Due.is("line of " + text, Due.told(x, text), cells);
        Due.is("fault of " + text, x.fault(), NONE);
        Due.is("told(0) of " + text, x.told(0), 1);
    }

    private static void strayLetters() {
        bad("x", 1, 0);
        bad("  x", 1, 2);
        bad("p1 1;", 1, 0);
        bad("e0 1;", 1, 0);
        bad("g0 0 1;", 1, 0);
        bad("D1 1;", 1, 0);
        bad(";", 1, 0);
        bad("5", 1, 0);
        bad("d", 1, 1);
        bad("d ", 1, 2);
        bad("d1", 1, 2);
        bad("d1 ", 1, 3);
        bad("d1;", 1, 2);
        bad("d1 1", 1, 4);
        bad("d1 1 ", 1, 5);
        bad("d1 1 1;", 1, 5);
        bad("d1 1 1000;", 1, 5);
        bad("d1 0 10;", 2, 3);
        bad("d1 2 3", 1, 5);
        bad("d1 1;;", 1, 5);
        bad("d1 1;x", 1, 5);
        bad("d1 1;7", 1, 5);
        bad("d1 1; p", 1, 7);
        bad("d1,1;", 1, 2);
        bad("d1\t1;", 1, 2);
        bad("d-1 1;", 1, 1);
        bad("d1 1d", 1, 4);
        bad("d1 1;g0 0;", 1, 9);
        bad("d1 1;g0 0 1 1;", 1, 12);
        bad("d1 1;p1p", 1, 7);
        bad("dd", 1, 1);
    }

    private static void badNumbers() {
        bad("d100 1;", 2, 1);
        bad("d0 0;", 2, 3);
        bad("d0 100;", 2, 3);
        bad("d0000 1;", 2, 1);
        bad("d0 0001;", 2, 3);
        bad("d999999999999999999 1;", 2, 1);
        bad("d4294967297 1;", 2, 1);
        bad("d1 1;p0 1;", 2, 6);
        bad("d1 1;p100 1;", 2, 6);
        bad("d1 1;p1 0;", 2, 8);
        bad("d1 1;p1 10;", 2, 8);
        bad("d1 1;e3 1;", 2, 6);
        bad("d1 1;e0 0;", 2, 8);
        bad("d1 1;e1 100;", 2, 8);
        bad("d1 1;g4 0 1;", 2, 6);
        bad("d1 1;g0 72 1;", 2, 8);
        bad("d1 1;g0 0 0;", 2, 10);
        bad("d1 1;g0 0 100;", 2, 10);
        bad("d   100", 2, 4);
        bad("d100", 2, 1);
    }

    private static void again() {
        bad("d1 1;d1 1;", 3, 5);
        bad("d1 1; d", 3, 6);
        bad("d1 1;e0 1;e", 3, 10);
        bad("d1 1;p1 1;p1 1;p1 1;p1 1;p1 1;p1 1;p1 1;p1 1;p", 3, 45);
        bad("d1 1;g0 0 1;g0 0 1;g0 0 1;g0 0 1;g0 0 1;g0 0 1;g", 3, 47);
    }

    private static void firstOfSeveral() {
        bad("d1 1;p0 1;d1 1;", 2, 6);
        bad("d1 1;d0 0;", 3, 5);
        bad("d1 1;x d", 1, 5);
        bad("d100 x", 2, 1);
    }

    private static void bad(String text, int kind, int letter) {
        EdgeEchoes x = new EdgeEchoes();
        Due.is("line of " + text, Due.told(x, text), -10 - kind);
        Due.is("fault of " + text, x.fault(), letter);
        Due.is("told(0) of " + text, x.told(0), 0);
        Due.is("told(4) of " + text, x.told(4), 0);
    }

    private static void faultKeepsAll() {
        EdgeEchoes x = Due.lineOf("d10 5;p50 3;p20 2;e2 7;g3 0 2;g0 9 1;");
        x.drive(true);
        x.tick(7);
        x.cut(2);
        x.see(3, 3, true);
        x.write(1, 4);
        String was = Due.all(x);
        Due.is("line with a fault", Due.told(x, "d9 9;p9 9;e0 1;g1 1 0;"), -12);
        Due.holds("a fault keeps all", was.equals(Due.all(x)));
        Due.is("fault stays", x.fault(), 20);
        Due.is("undo behind a fault", x.undo(3), 0);
        x.keep(1);
        Due.is("line with another fault", Due.told(x, "p"), -11);
        Due.is("goBack behind a fault", x.goBack(1), 1);
        Due.is("line again", Due.told(x, "d1 1;"), 0);
        Due.is("fault gone", x.fault(), NONE);
    }
}
