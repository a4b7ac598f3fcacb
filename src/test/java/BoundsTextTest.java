/** Every boundary that section 1 and promises 1 to 4 name: the text, its numbers, its clauses, its faults. */
public final class BoundsTextTest {
    private static final int OUTSIDE = EdgeEchoes.OUTSIDE, FULL = EdgeEchoes.FULL, NONE = EdgeEchoes.NONE;
    private static final int STRAY = -11, BAD_NUMBER = -12, AGAIN = -13;
    private static final String EIGHT_P = "p1 1;p2 1;p3 1;p4 1;p5 1;p6 1;p7 1;p8 1;";
    private static final String SIX_G = "g0 0 1;g1 1 2;g2 2 3;g3 3 4;g0 4 5;g1 5 6;";

    public static void main(String[] args) {
        lettersOfFeed();
        textOf240();
        emptyAndBlank();
        firstLetter();
        letterBehindClause();
        letterWhereNumberIsDue();
        letterBehindNumber();
        letterWhereClauseEnds();
        textThatEndsEarly();
        shorterThanTheLast();
        blanksAnywhere();
        figures();
        boundsOfNumbers();
        bothFaultsOfNumber();
        asManyAsMayBe();
        oneTooMany();
        leastOfSeveral();
        endNotTold();
        faultChangesNothing();
        faultOfLatestLine();
        numberOfCells();
        Due.end();
    }

    private static void read(String text, int answer, int fault) {
        EdgeEchoes x = new EdgeEchoes();
        Due.is("line of '" + text + "'", Due.told(x, text), answer);
        Due.is("fault of '" + text + "'", x.fault(), fault);
        Due.is("told(0) of '" + text + "'", x.told(0), answer >= 0 && !text.isBlank() ? 1 : 0);
        Due.is("told(4) behind '" + text + "'", x.told(4), 0);
    }

    /** feed: "A letter (0 .. 255) ..: how many it has. OUTSIDE, FULL (240)." */
    private static void lettersOfFeed() {
        for (int letter : Twins.beyond(0, 255)) {
            Twins.refused(Twins.ALL, "feed(" + letter + ")", x -> x.feed(letter), OUTSIDE);
        }
        for (int letter : new int[] {0, ' ', 'd', ';', 255}) {
            Twins.refused(Twins.FILLED, "feed(" + letter + ")", x -> x.feed(letter), FULL);
        }
        EdgeEchoes x = new EdgeEchoes();
        for (int letter = 0; letter < 240; letter++) {
            Due.is("feed(" + letter + ")", x.feed(letter), letter + 1);
        }
        Due.is("the 241st", x.feed(240), FULL);
        Due.is("the 241st, outside", x.feed(256), OUTSIDE);
        Due.is("told(4)", x.told(4), 240);
        for (int letter = 240; letter < 256; letter++) {
            EdgeEchoes y = new EdgeEchoes();
            Due.is("feed(" + letter + ")", y.feed(letter), 1);
        }
    }

    /** "a text (240 letters at most)": the last of them still counts, and the end is at 240. */
    private static void textOf240() {
        read("d1 1;" + " ".repeat(235), 0, NONE);
        read(" ".repeat(235) + "d1 1;", 0, NONE);
        read("d1 1;" + " ".repeat(234) + "x", STRAY, 239);
        read("d1 1" + " ".repeat(236), STRAY, 240);
        read(" ".repeat(239) + "d", STRAY, 240);
        EdgeEchoes x = new EdgeEchoes();
        Due.feed(x, " ".repeat(236) + "d1 1");
        Due.is("no room for the last sign", x.feed(';'), FULL);
        Due.is("it is not read", x.line(), STRAY);
        Due.is("the end is at 240", x.fault(), 240);
        Due.is("room again", x.feed('d'), 1);
    }

    /** "An empty text (or one of blanks alone): no LINE." */
    private static void emptyAndBlank() {
        for (String blanks : new String[] {"", " ", " ".repeat(240)}) {
            read(blanks, 0, NONE);
            EdgeEchoes x = Twins.BUSY.made();
            x.line();
            Due.told(x, "d1 1;p1 2;g3 0 1;");
            x.tick(1);
            x.keep(0);
            x.see(1, 1, true);
            x.write(0, 1);
            x.drive(true);
            Due.is("line of blanks", Due.told(x, blanks), 0);
            for (int what = 0; what <= 17; what++) {
                Due.is("told(" + what + ") of blanks", x.told(what), what == 14 ? NONE : 0);
            }
            Due.is("fault() of blanks", x.fault(), NONE);
            Due.is("goBack(0) of blanks", x.goBack(0), EdgeEchoes.NOT);
            Due.is("undo(1) of blanks", x.undo(1), EdgeEchoes.NOT);
            Due.is("drive() of blanks", x.drive(true), EdgeEchoes.NOT);
            Due.is("the seed stays", x.seed(0), 12345);
        }
        for (int letter : new int[] {0, 9, 10, 13, 31, 33, 127, 160, 255}) {
            read("" + (char) letter, STRAY, 0);
        }
    }

    /** "a letter that is no word, another word first than 'd'": each of the 256 letters first. */
    private static void firstLetter() {
        for (char c = 0; c < 256; c++) {
            if (c != ' ') {
                read("" + c, STRAY, c == 'd' ? 1 : 0);
                read("  " + c, STRAY, c == 'd' ? 3 : 2);
            }
        }
        read("p1 1;d1 1;", STRAY, 0);
        read("e0 1;d1 1;", STRAY, 0);
        read("g0 0 1;d1 1;", STRAY, 0);
    }

    private static void letterBehindClause() {
        for (char c = 0; c < 256; c++) {
            if (c == ' ') {
                read("d1 1; ", 0, NONE);
            } else if (c == 'd') {
                read("d1 1;d", AGAIN, 5);
            } else {
                read("d1 1;" + c, STRAY, c == 'p' || c == 'e' || c == 'g' ? 6 : 5);
            }
        }
    }

    private static boolean isFigure(char c) {
        return c >= '0' && c <= '9';
    }

    private static void letterWhereNumberIsDue() {
        for (char c = 0; c < 256; c++) {
            boolean passes = c == ' ' || isFigure(c);
            read("d" + c, STRAY, passes ? 2 : 1);
            read("d1 1;p" + c, c == '0' ? BAD_NUMBER : STRAY, passes && c != '0' ? 7 : 6);
        }
    }

    private static void letterBehindNumber() {
        for (char c = 0; c < 256; c++) {
            boolean passes = c == ' ' || isFigure(c);
            read("d1" + c, STRAY, passes ? 3 : 2);
        }
    }

    private static void letterWhereClauseEnds() {
        for (char c = 0; c < 256; c++) {
            if (c == ';') {
                read("d1 1;", 0, NONE);
                read("d1 1 ;", 0, NONE);
            } else {
                read("d1 1" + c, STRAY, c == ' ' || isFigure(c) ? 5 : 4);
                read("d1 1 " + c, STRAY, c == ' ' ? 6 : 5);
            }
        }
    }

    /** "(the end at the text's length)": a text cut short behind each of its letters. */
    private static void textThatEndsEarly() {
        String text = "d12 3;p45 6;e2 78;g3 12 34;";
        int[] cells = {6, 12, 18, 27};
        for (int length = 1; length <= text.length(); length++) {
            boolean whole = false;
            for (int c : cells) {
                whole |= c == length;
            }
            String part = text.substring(0, length);
            int due = length >= 12 ? 6 : 0;
            read(part, whole ? due : STRAY, whole ? NONE : length);
            read(part + "  ", whole ? due : STRAY, whole ? NONE : length + 2);
        }
    }

    /** A text ends where it ends, whatever a longer one had there. */
    private static void shorterThanTheLast() {
        String text = "d12 3;p45 6;e2 78;g3 12 34;";
        for (int length = 0; length < text.length(); length++) {
            EdgeEchoes x = new EdgeEchoes();
            Due.is("the whole text", Due.told(x, text), 6);
            boolean whole = length == 0 || length == 6 || length == 12 || length == 18;
            Due.is("its first " + length, Due.told(x, text.substring(0, length)), whole ? length >= 12 ? 6 : 0 : STRAY);
            Due.is("fault of its first " + length, x.fault(), whole ? NONE : length);
        }
    }

    /** "blanks (32) may stand anywhere but within NUMBERS; two NUMBERS side by side need one." */
    private static void blanksAnywhere() {
        read("  d  12  3  ;  p  45  6  ;  e  2  78  ;  g  3  12  34  ;  ", 6, NONE);
        read("d12 3;p45 6;e2 78;g3 12 34;", 6, NONE);
        read("d 12 3;", 0, NONE);
        read("d1 2 3;", STRAY, 5);
        read("d12;", STRAY, 3);
        read("d1 1;g012;", BAD_NUMBER, 6);
        read("d1 1;g01 2;", STRAY, 10);
        read("d1 1;g3 1234;", BAD_NUMBER, 8);
        EdgeEchoes x = Due.lineOf("d 9 8 ; p 7 6 ; e 2 5 ; g 1 4 3 ;");
        Due.is("R", x.told(5), 9);
        Due.is("V", x.told(6), 8);
        Due.is("Z", x.wire(0, 0), 7);
        Due.is("L", x.wire(0, 1), 6);
        Due.is("R of the end", x.told(9), 5);
        Due.is("K", x.gate(0, 0), 1);
        Due.is("C", x.gate(0, 1), 4);
        Due.is("H", x.gate(0, 2), 3);
    }

    /** "NUMBERS have one to three figures"; "a NUMBER of four figures or more": at its first. */
    private static void figures() {
        read("d1 1;p1 1;", 1, NONE);
        read("d01 01;p01 01;", 1, NONE);
        read("d001 001;p001 001;e002 001;g003 071 001;", 1, NONE);
        read("d0001 1;", BAD_NUMBER, 1);
        read("d1 0001;", BAD_NUMBER, 3);
        read("d1 1;p0001 1;", BAD_NUMBER, 6);
        read("d1 1;p1 0001;", BAD_NUMBER, 8);
        read("d1 1;e0001 1;", BAD_NUMBER, 6);
        read("d1 1;e1 0001;", BAD_NUMBER, 8);
        read("d1 1;g0001 1 1;", BAD_NUMBER, 6);
        read("d1 1;g1 0001 1;", BAD_NUMBER, 8);
        read("d1 1;g1 1 0001;", BAD_NUMBER, 10);
        read("d0000", BAD_NUMBER, 1);
        read("d" + "0".repeat(239), BAD_NUMBER, 1);
        read("d" + "9".repeat(239), BAD_NUMBER, 1);
        read("d4294967296 1;", BAD_NUMBER, 1);
        read("d18446744073709551616 1;", BAD_NUMBER, 1);
    }

    /** Each number at its least, at its greatest, and just beyond both. */
    private static void boundsOfNumbers() {
        number("d", " 1;", 0, 99, 1);
        number("d1 ", ";", 1, 99, 3);
        number("d1 1;p", " 1;", 1, 99, 6);
        number("d1 1;p1 ", ";", 1, 9, 8);
        number("d1 1;e", " 1;", 0, 2, 6);
        number("d1 1;e0 ", ";", 1, 99, 8);
        number("d1 1;e1 ", ";", 1, 99, 8);
        number("d1 1;e2 ", ";", 1, 99, 8);
        number("d1 1;g", " 0 1;", 0, 3, 6);
        number("d1 1;g0 ", " 1;", 0, 71, 8);
        number("d1 1;g0 0 ", ";", 1, 99, 10);
        EdgeEchoes x = Due.lineOf("d0 1;p1 1;e2 1;g0 0 1;");
        int[] least = {x.told(5), x.told(6), x.wire(0, 0), x.wire(0, 1), x.told(9), x.gate(0, 1), x.gate(0, 2)};
        EdgeEchoes y = Due.lineOf("d99 99;p99 9;e2 99;g3 71 99;");
        int[] most = {y.told(5), y.told(6), y.wire(0, 0), y.wire(0, 1), y.told(9), y.gate(0, 1), y.gate(0, 2)};
        int[] dueLeast = {0, 1, 1, 1, 1, 0, 1};
        int[] dueMost = {99, 99, 99, 9, 99, 71, 99};
        for (int k = 0; k < 7; k++) {
            Due.is("least number " + k, least[k], dueLeast[k]);
            Due.is("greatest number " + k, most[k], dueMost[k]);
        }
    }

    private static void number(String ahead, String behind, int least, int greatest, int at) {
        for (int v = 0; v <= 1000; v++) {
            EdgeEchoes x = new EdgeEchoes();
            boolean within = v >= least && v <= greatest;
            String text = ahead + v + behind;
            int got = Due.told(x, text);
            Due.holds("line of " + text, within ? got >= 0 : got == BAD_NUMBER);
            Due.is("fault of " + text, x.fault(), within ? NONE : at);
        }
        read(ahead + "-1" + behind, STRAY, at);
    }

    /** Out of its bounds by its figures alone, or by its value: the same fault, at its first figure. */
    private static void bothFaultsOfNumber() {
        read("d1 100;", BAD_NUMBER, 3);
        read("d1 1000;", BAD_NUMBER, 3);
        read("d1   100", BAD_NUMBER, 5);
        read("d1 100x", BAD_NUMBER, 3);
        read("d1 1;p100d", BAD_NUMBER, 6);
    }

    private static void asManyAsMayBe() {
        read("d1 1;" + EIGHT_P, 8, NONE);
        read("d1 1;" + SIX_G, 0, NONE);
        read("d1 1;" + EIGHT_P + "e0 1;" + SIX_G, 8, NONE);
        read("d1 1;" + SIX_G + "e0 1;" + EIGHT_P, 8, NONE);
        EdgeEchoes x = Due.lineOf("d1 1;" + SIX_G + EIGHT_P);
        Due.is("PIECES", x.told(1), 8);
        Due.is("GATES", x.told(3), 6);
        Due.is("the last PIECE", x.wire(7, 0), 8);
        Due.is("the last GATE", x.gate(5, 2), 6);
    }

    /** "3 'd', 'e' again, a ninth 'p', a seventh 'g' (at it)." */
    private static void oneTooMany() {
        read("d1 1;d1 1;", AGAIN, 5);
        read("d1 1;  d", AGAIN, 7);
        read("d1 1;p1 1;d1 1;", AGAIN, 10);
        read("d1 1;e0 1;e0 1;", AGAIN, 10);
        read("d1 1;e1 1;p1 1;e", AGAIN, 15);
        read("d1 1;" + EIGHT_P + "p9 1;", AGAIN, 45);
        read("d1 1;" + EIGHT_P + "p", AGAIN, 45);
        read("d1 1;" + EIGHT_P + "e0 1; p", AGAIN, 51);
        read("d1 1;" + SIX_G + "g0 0 1;", AGAIN, 47);
        read("d1 1;" + SIX_G + "g", AGAIN, 47);
        read("d1 1;" + SIX_G + "p1 1;g", AGAIN, 52);
    }

    /** "at the first letter that has one .., of these the least" */
    private static void leastOfSeveral() {
        // One letter with two faults: it cannot stand there, and its number or word is wrong as well.
        read("d1 1 1000;", STRAY, 5);
        read("1000", STRAY, 0);
        read("d1 1;1000", STRAY, 5);
        read("d1 1;e0 1;p e", STRAY, 12);
        read("d1 1;" + EIGHT_P + "e0 p", STRAY, 48);
        read("dd", STRAY, 1);
        read("d1 1d", STRAY, 4);
        // Two letters with a fault each: the first.
        read("d100 x", BAD_NUMBER, 1);
        read("d1 x 100;", STRAY, 3);
        read("d1 1;d100 1;", AGAIN, 5);
        read("d1 1;p0 1;d", BAD_NUMBER, 6);
        read("d1 1;x;d", STRAY, 5);
        read("d1 100;" + EIGHT_P + "p", BAD_NUMBER, 3);
    }

    /** "open, if it is not told" */
    private static void endNotTold() {
        EdgeEchoes x = Due.lineOf("d10 6;p10 1;");
        Due.is("KIND", x.told(8), 0);
        Due.is("R", x.told(9), 0);
        x.drive(true);
        x.tick(2);
        Due.is("all of it runs back", x.cell(0, 2), x.cell(0, 1));
        for (int k = 0; k <= 2; k++) {
            EdgeEchoes y = Due.lineOf("d10 6;p10 1;e" + k + " 30;");
            Due.is("KIND " + k, y.told(8), k);
            Due.is("R of KIND " + k, y.told(9), k == 2 ? 30 : 0);
            y.drive(true);
            y.tick(2);
            Due.is("back of KIND " + k, y.cell(0, 2), 1000000 + new int[] {3000, -3000, 1500}[k]);
        }
    }

    /** line: "-10 less the number of its FAULT (all is as it was)", but THE TEXT "is empty then, with a FAULT, too". */
    private static void faultChangesNothing() {
        String[] spoilt = {"x", "d9 9;p9 9;e1 1;g0 0 1;x", "d8 8;p8 8;g0 0 100;", "d7 7;e2 7;p7 7;e"};
        int[] answer = {STRAY, STRAY, BAD_NUMBER, AGAIN};
        int[] letter = {0, 22, 15, 15};
        for (int k = 0; k < spoilt.length; k++) {
            String text = spoilt[k];
            int due = answer[k];
            int at = letter[k];
            for (Twins.Stand stand : new Twins.Stand[] {Twins.NEW, Twins.BLANKED, Twins.NO_CELLS, Twins.LARGEST}) {
                Twins.same(stand, "line of " + text, x -> {
                    Due.is(stand.name + ": line of " + text, Due.told(x, text), due);
                    Due.is(stand.name + ": fault of " + text, x.fault(), at);
                    Due.is(stand.name + ": text behind " + text, x.told(4), 0);
                });
            }
        }
        Twins.Stand seen = new Twins.Stand("busy, no text", x -> {
            Twins.BUSY.way.on(x);
            // What BUSY fed is no whole clause.
            Due.is("the rest of busy's text", x.line(), STRAY);
        });
        Twins.same(seen, "line of a seventh", x -> Due.is("seventh", Due.told(x, "d1 1;" + SIX_G + "g"), AGAIN));
        // Also when what is fed is full, and with what is SEEN and THE BOOK full.
        EdgeEchoes x = Twins.FILLED.made();
        x.line();
        Due.feed(x, "d1 1;" + "x".repeat(140));
        Due.is("a fault", x.line(), STRAY);
        Due.is("a fault: its letter", x.fault(), 5);
    }

    /** fault: "The letter of the FAULT of the latest line(); NONE." */
    private static void faultOfLatestLine() {
        EdgeEchoes x = new EdgeEchoes();
        Due.is("no line() yet", x.fault(), NONE);
        x.feed('x');
        Due.is("not read yet", x.fault(), NONE);
        x.line();
        Due.is("the first letter", x.fault(), 0);
        Due.told(x, "d1 1;x");
        Due.is("a later one", x.fault(), 5);
        x.feed('y');
        x.tick(1);
        Due.is("it stays", x.fault(), 5);
        x.line();
        Due.is("of the latest", x.fault(), 0);
        Due.told(x, "");
        Due.is("an empty text has none", x.fault(), NONE);
        Due.told(x, "x");
        Due.told(x, "d1 1;");
        Due.is("a good text has none", x.fault(), NONE);
    }

    /** line: "N", from 0 to 72. */
    private static void numberOfCells() {
        StringBuilder text = new StringBuilder("d1 1;");
        Due.is("no PIECES", Due.told(new EdgeEchoes(), text.toString()), 0);
        for (int p = 1; p <= 8; p++) {
            text.append("p1 9;");
            EdgeEchoes x = new EdgeEchoes();
            Due.is(p + " PIECES of 9", Due.told(x, text.toString()), 9 * p);
            Due.is("N", x.told(2), 9 * p);
            Due.is("the last one's first CELL", x.wire(p - 1, 2), 9 * p - 9);
        }
    }
}
