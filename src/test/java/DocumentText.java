/** Section 1: the text and its faults. */
final class DocumentText {
    private static final int NONE = EdgeEchoes.NONE;
    private static final String EIGHT_P = "p1 1;p2 2;p3 3;p4 4;p5 5;p6 6;p7 7;p8 8;";
    private static final String SIX_G = "g0 0 1;g1 1 2;g2 2 3;g3 3 4;g0 4 5;g1 5 6;";

    private DocumentText() {
    }

    static void all() {
        letterByLetter();
        driver();
        pieces();
        end();
        gates();
        numbersAndBlanks();
        whereAFaultIs();
        cannotStandThere();
        badNumbers();
        again();
        noLine();
        gateWithoutCell();
    }

    private static void letterByLetter() {
        Sentences.says("THE LINE is told in a text (240 letters at most), letter by letter: clauses:");
        EdgeEchoes x = new EdgeEchoes();
        String text = "d7 8;p9 1;" + " ".repeat(225) + "p3 2;";
        for (int k = 0; k < 240; k++) {
            Sentences.is("letter " + k, x.feed(text.charAt(k)), k + 1);
        }
        Sentences.is("the 241st", x.feed(' '), EdgeEchoes.FULL);
        Sentences.is("the last clause counts", x.line(), 3);
    }

    /** The number v between the two parts: told, if it is within its bounds, else fault 2 at its first figure. */
    private static void bounds(String ahead, String behind, int least, int greatest) {
        for (int v = 0; v <= 999; v++) {
            EdgeEchoes x = new EdgeEchoes();
            int answer = Due.told(x, ahead + v + behind);
            boolean within = v >= least && v <= greatest;
            Sentences.holds("line of " + ahead + v + behind, within ? answer >= 0 : answer == -12);
            Sentences.is("fault of " + ahead + v + behind, x.fault(), within ? NONE : ahead.length());
        }
    }

    private static void driver() {
        Sentences.says("'d' R V ';' (THE DRIVER: R OHMS, 0 .. 99; V VOLTS, 1 .. 99;");
        bounds("d", " 5;", 0, 99);
        bounds("d5 ", ";", 1, 99);
        for (int k = 0; k < 99; k++) {
            EdgeEchoes x = Due.lineOf("d" + k + " " + (k + 1) + ";");
            Sentences.is("R", x.told(5), k);
            Sentences.is("V", x.told(6), k + 1);
        }
        Sentences.says("first, once)");
        Sentences.read("p1 1;d1 1;", -11, 0);
        Sentences.read("d1 1;p1 1;d1 1;", -13, 10);
    }

    private static void pieces() {
        Sentences.says("'p' Z L ';' (8 PIECES at most, one behind the other: Z OHMS, 1 .. 99; L CELLS, 1 .. 9)");
        bounds("d1 1;p", " 1;", 1, 99);
        bounds("d1 1;p1 ", ";", 1, 9);
        EdgeEchoes x = Due.lineOf("d1 1;" + EIGHT_P);
        int first = 0;
        for (int p = 0; p < 8; p++) {
            Sentences.is("Z of " + p, x.wire(p, 0), p + 1);
            Sentences.is("L of " + p, x.wire(p, 1), p + 1);
            Sentences.is("behind the one ahead: " + p, x.wire(p, 2), first);
            first += p + 1;
        }
        Sentences.read("d1 1;" + EIGHT_P + "p1 1;", -13, 45);
    }

    private static void end() {
        Sentences.says("'e' K R ';' (THE END: KIND K: 0 open, 1 short, 2 of R OHMS; R 1 .. 99;");
        bounds("d1 1;e", " 1;", 0, 2);
        bounds("d1 1;e0 ", ";", 1, 99);
        bounds("d1 1;e1 ", ";", 1, 99);
        bounds("d1 1;e2 ", ";", 1, 99);
        int[] back = {3000, -3000, 1000};
        for (int k = 0; k <= 2; k++) {
            EdgeEchoes x = Sentences.high("d10 6;p10 1;e" + k + " 20;");
            Sentences.is("KIND", x.told(8), k);
            x.tick(2);
            Sentences.waves(x, "KIND " + k, 0, 3000, back[k]);
        }
        Sentences.says("once; open, if it is not told)");
        Sentences.read("d1 1;e0 1;e0 1;", -13, 10);
        EdgeEchoes open = Sentences.high("d10 6;p10 1;");
        Sentences.is("KIND", open.told(8), 0);
        open.tick(2);
        Sentences.waves(open, "not told", 0, 3000, 3000);
        // An end told to the line ahead of this one is gone with it.
        EdgeEchoes x = Due.lineOf("d10 6;p10 1;e1 9;");
        Due.told(x, "d10 6;p10 1;");
        Sentences.is("KIND of a line told anew", x.told(8), 0);
    }

    private static void gates() {
        Sentences.says("'g' K C H ';' (6 GATES at most: KIND K, 0 .. 3; at CELL C, 0 .. 71; H VOLTS, 1 .. 99).");
        bounds("d1 1;g", " 0 1;", 0, 3);
        bounds("d1 1;g0 ", " 1;", 0, 71);
        bounds("d1 1;g0 0 ", ";", 1, 99);
        EdgeEchoes x = Due.lineOf("d1 1;" + SIX_G);
        for (int g = 0; g < 6; g++) {
            Sentences.is("K of " + g, x.gate(g, 0), g % 4);
            Sentences.is("C of " + g, x.gate(g, 1), g);
            Sentences.is("H of " + g, x.gate(g, 2), g + 1);
        }
        Sentences.read("d1 1;" + SIX_G + "g0 0 1;", -13, 47);
    }

    private static void numbersAndBlanks() {
        Sentences.says("NUMBERS have one to three figures;");
        Sentences.read("d1 2;p3 4;", 4, NONE);
        Sentences.read("d01 02;p03 04;", 4, NONE);
        Sentences.read("d001 002;p003 004;", 4, NONE);
        Sentences.read("d 2;", -11, 3);
        Sentences.says("a word is one letter;");
        Sentences.read("dd1 2;", -11, 1);
        Sentences.read("d1 2;pp3 4;", -11, 6);
        Sentences.read("d1 2;pe0 1;", -11, 6);
        Sentences.says("blanks (32) may stand anywhere but within NUMBERS;");
        Sentences.read("   d   12   3   ;   p   45   6   ;   e   2   78   ;   g   3   12   34   ;   ", 6, NONE);
        Sentences.read("d1 2 3;", -11, 5);
        for (int letter : new int[] {0, 9, 10, 13, 31, 33, 160}) {
            Sentences.read("d1 2;" + (char) letter, -11, 5);
            Sentences.read("d1" + (char) letter + "2;", -11, 2);
        }
        Sentences.says("two NUMBERS side by side need one.");
        Sentences.read("d12;", -11, 3);
        Sentences.read("d1 2;g03 3;", -11, 10);
        Sentences.read("d1 2;", 0, NONE);
    }

    private static void whereAFaultIs() {
        Sentences.says("FAULTS, at the first letter that has one");
        Sentences.read("d1 x;y", -11, 3);
        Sentences.read("d1 100;d1 1;x", -12, 3);
        Sentences.read("d1 1;d1 100;x", -13, 5);
        Sentences.says("(the end at the text's length),");
        Sentences.read("d", -11, 1);
        Sentences.read("d1", -11, 2);
        Sentences.read("d1  ", -11, 4);
        Sentences.read("d1 1", -11, 4);
        Sentences.read("d1 1;p   ", -11, 9);
        Sentences.read(" ".repeat(239) + "d", -11, 240);
        // The end is where this text ends, whatever a longer one had there.
        String text = "d12 3;p45 6;e2 78;g3 12 34;";
        for (int length = 1; length < text.length(); length++) {
            EdgeEchoes x = Due.lineOf(text);
            boolean whole = length == 6 || length == 12 || length == 18;
            Sentences.is("its first " + length, Due.told(x, text.substring(0, length)), whole ? length / 12 * 6 : -11);
            Sentences.is("fault of its first " + length, x.fault(), whole ? NONE : length);
        }
        Sentences.says("of these the least:");
        // One letter that has two: it cannot stand there, and it is the first of a bad number, or a word again.
        Sentences.read("d1 1 1000;", -11, 5);
        Sentences.read("1000", -11, 0);
        Sentences.read("d1 1;e0 1;p e", -11, 12);
        Sentences.read("d1 1;" + EIGHT_P + "e p", -11, 47);
        Sentences.read("d1 1;" + SIX_G + "e g", -11, 49);
    }

    private static void cannotStandThere() {
        Sentences.says("1 it cannot stand there (a letter that is no word, another word first than 'd').");
        for (char c = 0; c < 256; c++) {
            if (c != ' ') {
                Sentences.read("" + c, -11, c == 'd' ? 1 : 0);
                Sentences.read(" " + c + " 1 1;", c == 'd' ? 0 : -11, c == 'd' ? NONE : 1);
            }
            if (c != ' ' && "dpeg".indexOf(c) < 0) {
                Sentences.read("d1 1;" + c, -11, 5);
            }
            if (c != ' ' && (c < '0' || c > '9')) {
                Sentences.read("d" + c, -11, 1);
                Sentences.read("d1" + c, -11, 2);
            }
            if (c != ' ' && c != ';') {
                Sentences.read("d1 1 " + c, -11, 5);
            }
        }
    }

    private static void badNumbers() {
        Sentences.says("2 a NUMBER of four figures or more, or out of its bounds (at its first).");
        Sentences.read("d0001 1;", -12, 1);
        Sentences.read("d1 0001;", -12, 3);
        Sentences.read("d 00001", -12, 2);
        Sentences.read("d1 1;g0 0 " + "0".repeat(200) + "1;", -12, 10);
        Sentences.read("d4294967297 1;", -12, 1);
        Sentences.read("d100 1;", -12, 1);
        Sentences.read("d1 1;p1   10", -12, 10);
    }

    private static void again() {
        Sentences.says("3 'd', 'e' again, a ninth 'p', a seventh 'g' (at it).");
        Sentences.read("d1 1; d", -13, 6);
        Sentences.read("d1 1;e0 1;p1 1;e", -13, 15);
        Sentences.read("d1 1;" + EIGHT_P + " p", -13, 46);
        Sentences.read("d1 1;" + SIX_G + " g", -13, 48);
        Sentences.read("d1 1;" + EIGHT_P + "e0 1;" + SIX_G, 36, NONE);
    }

    private static void noLine() {
        Sentences.says("An empty text (or one of blanks alone): no LINE.");
        for (String text : new String[] {"", " ", " ".repeat(240)}) {
            EdgeEchoes x = Due.lineOf("d1 1;p1 1;g0 0 1;");
            Sentences.is("line of blanks", Due.told(x, text), 0);
            Sentences.is("there is a LINE", x.told(0), 0);
            Sentences.is("PIECES", x.told(1), 0);
            Sentences.is("GATES", x.told(3), 0);
            Sentences.is("tick(1)", x.tick(1), EdgeEchoes.NOT);
        }
    }

    private static void gateWithoutCell() {
        Sentences.says("A GATE whose CELL there is not sees 0 VOLTS.");
        EdgeEchoes x = Sentences.high("d0 99;p9 2;g0 1 1;g0 2 1;g3 2 1;g3 71 99;");
        x.tick(2);
        Sentences.is("sees", x.told(11), 1 + 4 + 8);
        EdgeEchoes none = Sentences.high("d0 99;g0 0 1;g3 0 1;");
        none.tick(1);
        Sentences.is("sees without CELLS", none.told(11), 2);
        // What a longer line had in such a cell does not count.
        EdgeEchoes longer = Sentences.high("d0 99;p9 9;g0 5 1;");
        longer.tick(9);
        Due.told(longer, "d0 99;p9 2;g0 5 1;");
        longer.drive(true);
        longer.tick(9);
        Sentences.is("sees behind a longer line", longer.told(11), 0);
    }
}
