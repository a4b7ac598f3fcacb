import java.util.List;

/** Promises 1 to 33, in their order. */
final class DocumentPromises {
    private static final int UNKNOWN = EdgeEchoes.UNKNOWN, OUTSIDE = EdgeEchoes.OUTSIDE, NOT = EdgeEchoes.NOT;
    private static final int FULL = EdgeEchoes.FULL, NONE = EdgeEchoes.NONE;
    private static final String LINE = "d10 6;p20 2;p40 1;e2 20;g0 0 4;g3 2 6;g2 1 3;";
    private static final List<Twins.Stand> FILLED = List.of(Twins.FILLED);

    private DocumentPromises() {
    }

    static void all() {
        newObject();
        feed();
        lineAsAtFirst();
        lineAnswers();
        fault();
        told();
        toldOfTrials();
        wire();
        cell();
        place();
        gate();
        tick();
        drive();
        cutBriefMend();
        piece();
        end();
        ohms();
        quiet();
        drift();
        undo();
        volts();
        rest();
        sees();
        noNoise();
        see();
        couldBeAndLook();
        book();
        tear();
        seed();
        keep();
        goBack();
    }

    private static void newObject() {
        Sentences.says("No LINE.");
        EdgeEchoes x = new EdgeEchoes();
        for (int what = 0; what <= 17; what++) {
            Sentences.is("told(" + what + ")", x.told(what), what == 14 ? NONE : 0);
        }
        Sentences.is("fault()", x.fault(), NONE);
        Sentences.is("tick(1)", x.tick(1), NOT);
        Sentences.is("drive(true)", x.drive(true), NOT);
        Sentences.is("undo(1)", x.undo(1), NOT);
        Sentences.is("goBack(0)", x.goBack(0), NOT);
        Sentences.is("wire(0, 0)", x.wire(0, 0), UNKNOWN);
        Sentences.is("gate(0, 0)", x.gate(0, 0), UNKNOWN);
        Sentences.is("place(1)", x.place(1), NONE);
        Sentences.is("judge()", x.judge(), NONE);
        Sentences.is("tear()", x.tear(), 0);
        Sentences.is("seed(0)", x.seed(0), 0);
    }

    private static void feed() {
        Sentences.says("A letter (0 .. 255) comes behind THE TEXT: how many it has.");
        EdgeEchoes x = new EdgeEchoes();
        for (int letter = 16; letter < 256; letter++) {
            Sentences.is("feed(" + letter + ")", x.feed(letter), letter - 15);
            Sentences.is("told(4)", x.told(4), letter - 15);
        }
        for (int letter = 0; letter < 16; letter++) {
            Sentences.is("feed(" + letter + ")", new EdgeEchoes().feed(letter), 1);
        }
        // Behind it, not ahead of it: the text reads as it was fed.
        EdgeEchoes y = new EdgeEchoes();
        Due.feed(y, "d12 34;p56 7;");
        Sentences.is("line()", y.line(), 7);
        Sentences.is("R", y.told(5), 12);
        Sentences.is("V", y.told(6), 34);
        Sentences.says("OUTSIDE, FULL (240).");
        for (int letter : Twins.beyond(0, 255)) {
            Sentences.refused(Twins.ALL, "feed(" + letter + ")", z -> z.feed(letter), OUTSIDE);
        }
        Sentences.refused(FILLED, "feed(32)", z -> z.feed(32), FULL);
        Sentences.refused(FILLED, "feed(255)", z -> z.feed(255), FULL);
    }

    private static void lineAsAtFirst() {
        Sentences.says("THE TEXT (it is empty then, with a FAULT, too) becomes THE LINE");
        EdgeEchoes fed = new EdgeEchoes();
        Sentences.is("a FAULT", Due.told(fed, "d1 1;x"), -11);
        Sentences.is("empty with a FAULT", fed.told(4), 0);
        Sentences.is("a LINE", Due.told(fed, LINE), 3);
        Sentences.is("empty", fed.told(4), 0);
        int[] due = {1, 2, 3, 3, 0, 10, 6, 0, 2, 20};
        for (int what = 0; what < due.length; what++) {
            Sentences.is("told(" + what + ")", fed.told(what), due[what]);
        }
        Sentences.says("(TICK 0, LOW, all as at first;");
        EdgeEchoes x = used();
        Due.told(x, LINE);
        Sentences.is("TICK", x.told(10), 0);
        Sentences.is("LOW", x.told(7), 0);
        Sentences.is("sees", x.told(11), 0);
        for (int i = 0; i < 3; i++) {
            Sentences.waves(x, "as at first", i, 0, 0);
            Sentences.is("EDGES", x.gate(i, 4), 0);
        }
        Sentences.is("place(1)", x.place(1), 0);
        Sentences.is("place(2)", x.place(2), 0);
        Sentences.is("OHMS", x.wire(0, 0), 20);
        Sentences.is("R", x.told(5), 10);
        Sentences.is("THE END's R", x.told(9), 20);
        // A slow gate's ticks begin anew, too: two had passed.
        x.drive(true);
        x.tick(3);
        Sentences.is("slow: not yet", x.gate(2, 3), 0);
        Sentences.says("nothing SEEN, no BOOK;");
        EdgeEchoes seen = used();
        Sentences.is("SEEN ahead", seen.told(15), 1);
        Sentences.is("BOOK ahead", seen.told(16), 2);
        Due.told(seen, LINE);
        Sentences.is("SEEN", seen.told(15), 0);
        Sentences.is("BOOK", seen.told(16), 0);
        Sentences.is("judge()", seen.judge(), NONE);
        Sentences.is("couldBe(0)", seen.couldBe(0), 4);
        Sentences.says("IMAGES, what could be undone are gone;");
        EdgeEchoes gone = used();
        Due.told(gone, LINE);
        Sentences.is("told(17)", gone.told(17), 0);
        Sentences.is("undo(1)", gone.undo(1), NOT);
        Sentences.is("goBack(0)", gone.goBack(0), NOT);
        Sentences.is("goBack(1)", gone.goBack(1), NOT);
        Sentences.says("THE SEED stays):");
        EdgeEchoes stays = used();
        Due.told(stays, LINE);
        Sentences.is("THE SEED", stays.seed(0), 4711);
        EdgeEchoes blank = used();
        Due.told(blank, " ");
        Sentences.is("THE SEED, no LINE", blank.seed(0), 4711);
    }

    /** A line on which all has been done that line() makes as at first. */
    private static EdgeEchoes used() {
        EdgeEchoes x = Sentences.high(LINE);
        x.seed(4711);
        x.tick(3);
        x.keep(0);
        x.keep(1);
        x.cut(1);
        x.brief(2);
        x.piece(0, 9);
        x.end(1, 1);
        x.ohms(9);
        x.tick(1);
        x.see(2, 99000, true);
        x.write(0, 9);
        x.write(1, 9);
        // Trials leave nothing behind either: not a wave, not what a gate sees.
        x.sees(1, 1, 1);
        return x;
    }

    private static void lineAnswers() {
        Sentences.says("N;");
        StringBuilder text = new StringBuilder("d1 1;");
        Sentences.is("no PIECES", Due.told(new EdgeEchoes(), text.toString()), 0);
        for (int p = 1; p <= 8; p++) {
            text.append("p1 9;");
            Sentences.is(p + " PIECES", Due.told(new EdgeEchoes(), text.toString()), 9 * p);
        }
        Sentences.says("-10 less the number of its FAULT (all is as it was).");
        String[] spoilt = {"x", "d100 1;", "d1 1;p9 9;d"};
        for (int k = 0; k < 3; k++) {
            String fault = spoilt[k];
            int due = -11 - k;
            for (Twins.Stand stand : List.of(Twins.NEW, Twins.NO_CELLS, Twins.ONE_CELL, Twins.LARGEST)) {
                Twins.same(stand, "a FAULT", x -> Sentences.is("line of " + fault, Due.told(x, fault), due));
            }
            EdgeEchoes x = used();
            String was = Due.all(x);
            Sentences.is("line of " + fault, Due.told(x, fault), due);
            Sentences.holds("all is as it was", was.equals(Due.all(x)));
            Sentences.is("its IMAGES", x.goBack(0), 1);
            Sentences.is("THE SEED", x.seed(0), 4711);
        }
    }

    private static void fault() {
        Sentences.says("The letter of the FAULT of the latest line(); NONE.");
        EdgeEchoes x = new EdgeEchoes();
        Sentences.is("no line() yet", x.fault(), NONE);
        Due.told(x, "d1 1;  x");
        Sentences.is("letter 7", x.fault(), 7);
        x.feed('x');
        Sentences.is("it stays", x.fault(), 7);
        x.line();
        Sentences.is("the latest", x.fault(), 0);
        Due.told(x, "d1 1;");
        Sentences.is("none", x.fault(), NONE);
        Due.told(x, "d");
        Sentences.is("the end", x.fault(), 1);
        Due.told(x, "");
        Sentences.is("none of an empty text", x.fault(), NONE);
    }

    private static void told() {
        EdgeEchoes x = Due.lineOf(LINE);
        Sentences.says("0 1 there is a LINE, 0 not,");
        Sentences.is("told(0)", x.told(0), 1);
        Sentences.is("told(0) without", new EdgeEchoes().told(0), 0);
        Sentences.says("1 PIECES,");
        Sentences.is("told(1)", x.told(1), 2);
        Sentences.says("2 N,");
        Sentences.is("told(2)", x.told(2), 3);
        Sentences.says("3 GATES,");
        Sentences.is("told(3)", Due.lineOf(LINE + "g0 0 1;").told(3), 4);
        Sentences.says("4 letters of THE TEXT,");
        Due.feed(x, "d1 1;");
        Sentences.is("told(4)", x.told(4), 5);
        Sentences.says("5 R, 6 V of THE DRIVER,");
        Sentences.is("told(5)", x.told(5), 10);
        Sentences.is("told(6)", x.told(6), 6);
        x.ohms(11);
        Sentences.is("told(5) of another", x.told(5), 11);
        Sentences.says("7 1 it is HIGH, 0 LOW,");
        Sentences.is("LOW", x.told(7), 0);
        x.drive(true);
        Sentences.is("HIGH", x.told(7), 1);
        Sentences.says("8 KIND, 9 R of THE END (0, if it is not of OHMS),");
        Sentences.is("told(8)", x.told(8), 2);
        Sentences.is("told(9)", x.told(9), 20);
        for (int k = 0; k <= 1; k++) {
            EdgeEchoes y = Due.lineOf("d1 1;e" + k + " 30;");
            Sentences.is("told(8) of " + k, y.told(8), k);
            Sentences.is("told(9) of " + k, y.told(9), 0);
            x.end(k, 40);
            Sentences.is("told(8) of another, " + k, x.told(8), k);
            Sentences.is("told(9) of another, " + k, x.told(9), 0);
        }
        Sentences.says("10 TICKS,");
        x.tick(7);
        x.tick(1);
        Sentences.is("told(10)", x.told(10), 8);
        Sentences.says("11 what GATES see (a SET),");
        EdgeEchoes z = Sentences.high("d0 5;p9 1;e2 9;g3 0 5;g0 0 5;g3 0 6;");
        Sentences.is("at first", z.told(11), 0);
        z.tick(1);
        Sentences.is("told(11)", z.told(11), 6);
    }

    private static void toldOfTrials() {
        Sentences.says("12 OVER, 13 DRIVER, 14 COMES BACK,");
        EdgeEchoes x = Due.lineOf("d0 7;p30 4;");
        Sentences.is("told(12)", x.told(12), 7000);
        Sentences.is("told(13)", x.told(13), 30);
        Sentences.is("told(14)", x.told(14), 8);
        EdgeEchoes none = Due.lineOf("d0 7;");
        Sentences.is("told(12) without CELLS", none.told(12), 0);
        Sentences.is("told(13) without CELLS", none.told(13), 0);
        Sentences.is("told(14) without CELLS", none.told(14), NONE);
        Sentences.says("15 what is SEEN, 16 entries of THE BOOK, 17 how many can be undone");
        EdgeEchoes y = Due.lineOf(LINE);
        for (int k = 1; k <= 3; k++) {
            y.see(k, k, true);
            Sentences.is("told(15)", y.told(15), k);
            y.write(k - 1, k);
            y.write(k - 1, k);
            Sentences.is("told(16)", y.told(16), 2 * k);
            y.tick(1);
            y.tick(1);
            y.tick(1);
            Sentences.is("told(17)", y.told(17), 3 * k);
        }
        y.undo(4);
        Sentences.is("told(17) undone", y.told(17), 5);
        Sentences.says("(5 to 14 without a LINE 0, 14 NONE).");
        for (Twins.Stand stand : Twins.WITHOUT_LINE) {
            for (int what = 5; what <= 14; what++) {
                Sentences.is(stand.name + ": told(" + what + ")", stand.made().told(what), what == 14 ? NONE : 0);
            }
        }
        Sentences.says("OUTSIDE.");
        for (int what : Twins.beyond(0, 17)) {
            Sentences.refused(Twins.ALL, "told(" + what + ")", z -> z.told(what), OUTSIDE);
        }
    }

    private static void wire() {
        Sentences.says("Of a PIECE: what = 0 OHMS, 1 CELLS, 2 its first CELL.");
        EdgeEchoes x = Due.lineOf("d1 1;p10 3;p20 9;p99 1;p7 2;");
        int[][] due = {{10, 3, 0}, {20, 9, 3}, {99, 1, 12}, {7, 2, 13}};
        for (int p = 0; p < 4; p++) {
            for (int what = 0; what <= 2; what++) {
                Sentences.is("wire(" + p + ", " + what + ")", x.wire(p, what), due[p][what]);
            }
        }
        Sentences.says("UNKNOWN, OUTSIDE.");
        for (int p : Twins.beyond(0, 7)) {
            Sentences.refused(Twins.ALL, "wire(" + p + ", 0)", y -> y.wire(p, 0), UNKNOWN);
        }
        Sentences.refused(Twins.WITHOUT_LINE, "wire(0, 0)", y -> y.wire(0, 0), UNKNOWN);
        Sentences.refused(List.of(Twins.BUSY), "wire(3, 0)", y -> y.wire(3, 0), UNKNOWN);
        for (int what : Twins.beyond(0, 2)) {
            Sentences.refused(List.of(Twins.BUSY, Twins.LARGEST), "wire(0, " + what + ")", y -> y.wire(0, what), OUTSIDE);
        }
    }

    private static void cell() {
        Sentences.says("Of a CELL (0 .. 71): what = 0 VOLTS, 1 ON, 2 BACK, and 1000000 each (a million; also without such a CELL).");
        EdgeEchoes x = Sentences.high("d10 6;p10 1;e2 30;");
        x.tick(2);
        int[] due = {4500, 3000, 1500};
        for (int what = 0; what <= 2; what++) {
            Sentences.is("cell(0, " + what + ")", x.cell(0, what), 1000000 + due[what]);
            Sentences.is("cell(1, " + what + ")", x.cell(1, what), 1000000);
            Sentences.is("cell(71, " + what + ")", x.cell(71, what), 1000000);
            Sentences.is("cell(0, " + what + ") without a LINE", new EdgeEchoes().cell(0, what), 1000000);
        }
        // What a longer line carried in a cell is gone with that cell.
        EdgeEchoes longer = Sentences.high("d10 6;p10 9;");
        longer.tick(20);
        Due.told(longer, "d10 6;p10 2;");
        Sentences.is("behind a longer line", longer.cell(5, 0), 1000000);
        Sentences.says("OUTSIDE.");
        for (int i : Twins.beyond(0, 71)) {
            Sentences.refused(Twins.ALL, "cell(" + i + ", 0)", y -> y.cell(i, 0), OUTSIDE);
        }
        for (int what : Twins.beyond(0, 2)) {
            Sentences.refused(Twins.ALL, "cell(0, " + what + ")", y -> y.cell(0, what), OUTSIDE);
        }
    }

    private static void place() {
        Sentences.says("Of a PLACE (1 .. 71): 0 WHOLE, 1 CUT, 2 SHORT; NONE: there is none.");
        EdgeEchoes x = Due.lineOf("d1 1;p1 4;");
        x.cut(2);
        x.brief(3);
        int[] due = {0, 1, 2, NONE, NONE};
        for (int i = 1; i <= 5; i++) {
            Sentences.is("place(" + i + ")", x.place(i), due[i - 1]);
        }
        Sentences.is("place(71)", x.place(71), NONE);
        Sentences.is("place(71) of 72 CELLS", Twins.LARGEST.made().place(71), 1);
        for (Twins.Stand stand : List.of(Twins.NEW, Twins.BLANKED, Twins.NO_CELLS, Twins.ONE_CELL)) {
            Sentences.is(stand.name + ": place(1)", stand.made().place(1), NONE);
        }
        Sentences.says("OUTSIDE.");
        for (int i : Twins.beyond(1, 71)) {
            Sentences.refused(Twins.ALL, "place(" + i + ")", y -> y.place(i), OUTSIDE);
        }
    }

    private static void gate() {
        Sentences.says("Of a GATE: what = 0 KIND, 1 CELL, 2 H, 3 what it sees, 4 EDGES, 5 FIRST (NONE).");
        EdgeEchoes x = Due.lineOf("d0 5;p10 2;e2 10;g0 1 5;g3 71 99;g2 0 4;");
        int[][] due = {{0, 1, 5, 0, 0, NONE}, {3, 71, 99, 0, 0, 1}, {2, 0, 4, 0, 0, NONE}};
        gates(x, "LOW", due);
        x.drive(true);
        gates(x, "HIGH", new int[][] {{0, 1, 5, 0, 0, 2}, {3, 71, 99, 0, 0, 1}, {2, 0, 4, 0, 0, 3}});
        x.tick(2);
        gates(x, "behind 2", new int[][] {{0, 1, 5, 1, 1, 0}, {3, 71, 99, 1, 1, 0}, {2, 0, 4, 0, 0, 1}});
        Sentences.says("UNKNOWN, OUTSIDE.");
        for (int g : Twins.beyond(0, 5)) {
            Sentences.refused(Twins.ALL, "gate(" + g + ", 0)", y -> y.gate(g, 0), UNKNOWN);
        }
        Sentences.refused(Twins.WITHOUT_LINE, "gate(0, 0)", y -> y.gate(0, 0), UNKNOWN);
        Sentences.refused(List.of(Twins.BUSY), "gate(4, 0)", y -> y.gate(4, 0), UNKNOWN);
        for (int what : Twins.beyond(0, 5)) {
            Sentences.refused(Twins.WITH_LINE, "gate(0, " + what + ")", y -> y.gate(0, what), OUTSIDE);
        }
    }

    private static void gates(EdgeEchoes x, String when, int[][] due) {
        for (int g = 0; g < due.length; g++) {
            for (int what = 0; what <= 5; what++) {
                Sentences.is(when + ": gate(" + g + ", " + what + ")", x.gate(g, what), due[g][what]);
            }
        }
    }

    private static void tick() {
        Sentences.says("n TICKS (1 .. 50): TICKS.");
        EdgeEchoes once = Sentences.high(LINE);
        EdgeEchoes often = Sentences.high(LINE);
        int ticks = 0;
        for (int n = 1; n <= 50; n++) {
            ticks += n;
            Sentences.is("tick(" + n + ")", once.tick(n), ticks);
        }
        EdgeEchoes fifty = Sentences.high(LINE);
        fifty.tick(50);
        for (int k = 1; k <= 50; k++) {
            Sentences.is("tick(1)", often.tick(1), k);
        }
        for (int i = 0; i < 3; i++) {
            Sentences.is("VOLTS of " + i, fifty.cell(i, 0), often.cell(i, 0));
            Sentences.is("EDGES of " + i, fifty.gate(i, 4), often.gate(i, 4));
        }
        Sentences.says("OUTSIDE, NOT: no LINE;");
        for (int n : Twins.beyond(1, 50)) {
            Sentences.refused(Twins.ALL, "tick(" + n + ")", x -> x.tick(n), OUTSIDE);
        }
        Sentences.refused(Twins.WITHOUT_LINE, "tick(1)", x -> x.tick(1), NOT);
        Sentences.refused(Twins.WITHOUT_LINE, "tick(50)", x -> x.tick(50), NOT);
        Sentences.says("FULL: TICKS are above 90000.");
        EdgeEchoes full = above90000();
        Sentences.is("tick(1) above 90000", full.tick(1), FULL);
        Sentences.is("tick(51) above 90000", full.tick(51), OUTSIDE);
        Sentences.is("nothing has changed", full.told(10), 90001);
    }

    /** 512 calls do not come this far, and what later ones answer is free: this only keeps FULL in its place. */
    private static EdgeEchoes above90000() {
        EdgeEchoes x = Due.lineOf("d1 1;");
        for (int k = 1; k <= 1800; k++) {
            x.tick(50);
        }
        Sentences.is("at 90000", x.told(10), 90000);
        Sentences.is("tick(1) at 90000", x.tick(1), 90001);
        return x;
    }

    private static void drive() {
        Sentences.says("HIGH, or LOW: what it was (1, 0).");
        EdgeEchoes x = Due.lineOf(LINE);
        boolean[] high = {true, true, false, false, true};
        int[] was = {0, 1, 1, 0, 0};
        for (int k = 0; k < high.length; k++) {
            Sentences.is("drive(" + high[k] + ")", x.drive(high[k]), was[k]);
            Sentences.is("told(7)", x.told(7), high[k] ? 1 : 0);
        }
        Sentences.is("each a deed", x.told(17), 5);
        Sentences.says("NOT: no LINE.");
        Sentences.refused(Twins.WITHOUT_LINE, "drive(true)", y -> y.drive(true), NOT);
        Sentences.refused(Twins.WITHOUT_LINE, "drive(false)", y -> y.drive(false), NOT);
    }

    /** Three calls alike: each turns a place from the two other states to its own, and answers what it was. */
    private static void cutBriefMend() {
        turns("CUT: what it was.", 1, EdgeEchoes::cut);
        turnRefusals("OUTSIDE (1 .. 71), NOT: no such PLACE, it is CUT.", 1, EdgeEchoes::cut);
        turns("SHORT: what it was.", 2, EdgeEchoes::brief);
        turnRefusals("OUTSIDE (1 .. 71), NOT: no such PLACE, it is SHORT.", 2, EdgeEchoes::brief);
        turns("MENDED: what it was.", 0, EdgeEchoes::mend);
        turnRefusals("OUTSIDE (1 .. 71), NOT: no such PLACE, it is WHOLE.", 0, EdgeEchoes::mend);
    }

    private interface Turn {
        int of(EdgeEchoes x, int i);
    }

    private static void to(EdgeEchoes x, int i, int state) {
        if (x.place(i) != state) {
            int was = state == 0 ? x.mend(i) : state == 1 ? x.cut(i) : x.brief(i);
            Due.holds("the place is led there", was >= 0);
        }
    }

    private static void turns(String words, int state, Turn turn) {
        Sentences.says(words);
        for (int was = 0; was <= 2; was++) {
            for (int i : new int[] {1, 8, 36, 71}) {
                if (was != state) {
                    EdgeEchoes x = Twins.LARGEST.made();
                    to(x, i, was);
                    int deeds = x.told(17);
                    Sentences.is("PLACE " + i + " of " + was, turn.of(x, i), was);
                    Sentences.is("PLACE " + i + " then", x.place(i), state);
                    Sentences.is("a deed", x.told(17), deeds + 1);
                }
            }
        }
    }

    private static void turnRefusals(String words, int state, Turn turn) {
        Sentences.says(words);
        for (int i : Twins.beyond(1, 71)) {
            Sentences.refused(Twins.ALL, "PLACE " + i, x -> turn.of(x, i), OUTSIDE);
        }
        for (int i : new int[] {1, 71}) {
            Sentences.refused(Twins.WITHOUT_LINE, "PLACE " + i, x -> turn.of(x, i), NOT);
            Sentences.refused(List.of(Twins.NO_CELLS, Twins.ONE_CELL), "PLACE " + i, x -> turn.of(x, i), NOT);
        }
        Sentences.refused(List.of(Twins.BUSY), "PLACE 9 of 9 CELLS", x -> turn.of(x, 9), NOT);
        Twins.Stand so = new Twins.Stand("so already " + state, x -> {
            Twins.BUSY.way.on(x);
            to(x, 4, state);
        });
        Sentences.refused(List.of(so), "PLACE 4, so already", x -> turn.of(x, 4), NOT);
    }

    private static void piece() {
        Sentences.says("ANOTHER (Z 1 .. 99): what it was.");
        EdgeEchoes x = Due.lineOf("d1 1;p10 2;p20 2;p30 2;");
        for (int p = 0; p < 3; p++) {
            int was = 10 + 10 * p;
            for (int z : new int[] {1, 99, 50, 50}) {
                Sentences.is("piece(" + p + ", " + z + ")", x.piece(p, z), was);
                Sentences.is("OHMS of " + p, x.wire(p, 0), z);
                was = z;
            }
        }
        Sentences.is("each a deed", x.told(17), 12);
        Sentences.says("UNKNOWN, OUTSIDE.");
        for (int p : Twins.beyond(0, 7)) {
            Sentences.refused(Twins.ALL, "piece(" + p + ", 1)", y -> y.piece(p, 1), UNKNOWN);
        }
        Sentences.refused(Twins.WITHOUT_LINE, "piece(0, 1)", y -> y.piece(0, 1), UNKNOWN);
        Sentences.refused(List.of(Twins.BUSY), "piece(3, 1)", y -> y.piece(3, 1), UNKNOWN);
        for (int z : Twins.beyond(1, 99)) {
            Sentences.refused(List.of(Twins.BUSY, Twins.LARGEST), "piece(0, " + z + ")", y -> y.piece(0, z), OUTSIDE);
        }
    }

    private static void end() {
        Sentences.says("THE END (K 0 .. 2, R 1 .. 99, no matter but for K 2): the KIND it was.");
        EdgeEchoes x = Due.lineOf("d1 1;p1 1;");
        int[][] ends = {{2, 1}, {2, 99}, {1, 1}, {0, 99}, {0, 0}, {1, 100}, {1, -1}, {2, 50}};
        int was = 0;
        for (int[] end : ends) {
            Sentences.is("end(" + end[0] + ", " + end[1] + ")", x.end(end[0], end[1]), was);
            Sentences.is("KIND", x.told(8), end[0]);
            Sentences.is("R", x.told(9), end[0] == 2 ? end[1] : 0);
            was = end[0];
        }
        Sentences.is("each a deed", x.told(17), ends.length);
        Sentences.says("OUTSIDE, NOT: no LINE.");
        for (int k : Twins.beyond(0, 2)) {
            Sentences.refused(Twins.ALL, "end(" + k + ", 1)", y -> y.end(k, 1), OUTSIDE);
        }
        for (int r : Twins.beyond(1, 99)) {
            Sentences.refused(Twins.ALL, "end(2, " + r + ")", y -> y.end(2, r), OUTSIDE);
        }
        for (int k = 0; k <= 2; k++) {
            int kind = k;
            Sentences.refused(Twins.WITHOUT_LINE, "end(" + k + ", 1)", y -> y.end(kind, 1), NOT);
        }
    }

    private static void ohms() {
        Sentences.says("THE DRIVER's R (0 .. 99): what it was.");
        EdgeEchoes x = Due.lineOf("d7 5;p1 1;");
        int was = 7;
        for (int r : new int[] {0, 99, 50, 50}) {
            Sentences.is("ohms(" + r + ")", x.ohms(r), was);
            Sentences.is("R", x.told(5), r);
            was = r;
        }
        Sentences.is("each a deed", x.told(17), 4);
        Sentences.says("OUTSIDE, NOT: no LINE.");
        for (int r : Twins.beyond(0, 99)) {
            Sentences.refused(Twins.ALL, "ohms(" + r + ")", y -> y.ohms(r), OUTSIDE);
        }
        Sentences.refused(Twins.WITHOUT_LINE, "ohms(0)", y -> y.ohms(0), NOT);
        Sentences.refused(Twins.WITHOUT_LINE, "ohms(99)", y -> y.ohms(99), NOT);
    }

    private static void quiet() {
        Sentences.says("QUIET: EDGES of all there were.");
        EdgeEchoes x = Due.lineOf("d0 9;p9 1;e2 9;g3 0 9;g0 0 9;g0 0 9;g0 0 9;g0 0 9;g3 0 9;");
        Sentences.is("none yet", x.quiet(), 0);
        x.tick(1);
        Sentences.is("two turned", x.quiet(), 2);
        x.tick(1);
        x.drive(true);
        x.tick(1);
        Sentences.is("two turned twice, four once", x.quiet(), 8);
        Sentences.waves(x, "quiet", 0, 0, 0);
        Sentences.is("none any more", x.quiet(), 0);
        Sentences.says("NOT: no LINE.");
        Sentences.refused(Twins.WITHOUT_LINE, "quiet()", EdgeEchoes::quiet, NOT);
    }

    private static void drift() {
        Sentences.says("n times BY DRAWS (1 .. 50): TICKS.");
        for (int n : new int[] {1, 2, 25, 49, 50}) {
            EdgeEchoes once = Due.lineOf(LINE);
            EdgeEchoes often = Due.lineOf(LINE);
            once.tick(3);
            often.tick(3);
            Sentences.is("drift(" + n + ")", once.drift(n), n + 3);
            Sentences.is("one deed", once.told(17), 2);
            for (int k = 1; k <= n; k++) {
                Sentences.is("drift(1)", often.drift(1), k + 3);
            }
            for (int i = 0; i < 3; i++) {
                Sentences.is("VOLTS of " + i, once.cell(i, 0), often.cell(i, 0));
            }
            Sentences.is("THE SEED", once.seed(0), often.seed(0));
        }
        Sentences.says("OUTSIDE, NOT: no LINE; FULL: TICKS are above 90000.");
        for (int n : Twins.beyond(1, 50)) {
            Sentences.refused(Twins.ALL, "drift(" + n + ")", x -> x.drift(n), OUTSIDE);
        }
        Sentences.refused(Twins.WITHOUT_LINE, "drift(1)", x -> x.drift(1), NOT);
        Sentences.refused(Twins.WITHOUT_LINE, "drift(50)", x -> x.drift(50), NOT);
        EdgeEchoes full = above90000();
        Sentences.is("drift(1) above 90000", full.drift(1), FULL);
        Sentences.is("drift(0) above 90000", full.drift(0), OUTSIDE);
        Sentences.is("THE SEED stays", full.seed(0), 0);
    }

    private static void undo() {
        Sentences.says("The n latest (1 .. 12) are undone: TICKS.");
        for (int n = 1; n <= 12; n++) {
            EdgeEchoes x = Due.lineOf(LINE);
            for (int k = 1; k <= 12; k++) {
                x.tick(k);
            }
            int left = 12 - n;
            Sentences.is("undo(" + n + ")", x.undo(n), left * (left + 1) / 2);
            Sentences.is("TICKS", x.told(10), left * (left + 1) / 2);
            Sentences.is("left", x.told(17), left);
        }
        Sentences.says("OUTSIDE, NOT: not so many.");
        for (int n : Twins.beyond(1, 12)) {
            Sentences.refused(Twins.ALL, "undo(" + n + ")", x -> x.undo(n), OUTSIDE);
        }
        Sentences.refused(Twins.WITHOUT_LINE, "undo(1)", x -> x.undo(1), NOT);
        Sentences.refused(List.of(Twins.BUSY), "undo(7) of six", x -> x.undo(7), NOT);
        Sentences.refused(List.of(Twins.ONE_CELL), "undo(12) of two", x -> x.undo(12), NOT);
    }

    private static void volts() {
        Sentences.says("VOLTS (what 0), PEAK (1), LEAST (2) of a CELL (0 .. 71), and 1000000.");
        // 6, 12, 6, 0 VOLTS for ever; two ticks on, from the top.
        EdgeEchoes x = Sentences.high("d0 6;p9 1;");
        x.tick(2);
        int[][] due = {{12000, 12000, 12000}, {6000, 12000, 6000}, {0, 12000, 0}, {6000, 12000, 0}};
        for (int n = 0; n < 4; n++) {
            for (int what = 0; what <= 2; what++) {
                Sentences.is("volts(0, " + n + ", " + what + ")", x.volts(0, n, what), 1000000 + due[n][what]);
                Sentences.is("volts(1, " + n + ", " + what + ")", x.volts(1, n, what), 1000000);
                Sentences.is("volts(71, " + n + ", " + what + ")", x.volts(71, n, what), 1000000);
            }
        }
        EdgeEchoes far = Sentences.high("d1 6;p1 9;p1 9;p1 9;p1 9;p1 9;p1 9;p1 9;p1 9;");
        Sentences.is("volts(71, 72, 0)", far.volts(71, 72, 0), 1003000);
        Sentences.says("OUTSIDE.");
        for (int i : Twins.beyond(0, 71)) {
            Sentences.refused(Twins.ALL, "volts(" + i + ", 0, 0)", y -> y.volts(i, 0, 0), OUTSIDE);
        }
        for (int n : Twins.beyond(0, 200)) {
            Sentences.refused(Twins.ALL, "volts(0, " + n + ", 0)", y -> y.volts(0, n, 0), OUTSIDE);
        }
        for (int what : Twins.beyond(0, 2)) {
            Sentences.refused(Twins.ALL, "volts(0, 0, " + what + ")", y -> y.volts(0, 0, what), OUTSIDE);
        }
    }

    private static void rest() {
        Sentences.says("REST of a CELL (0 .. 71; 0 without such a CELL).");
        EdgeEchoes x = Sentences.high("d10 6;p10 4;");
        int[] due = {8, 7, 6, 5, 0, 0};
        for (int i = 0; i < due.length; i++) {
            Sentences.is("rest(" + i + ")", x.rest(i), due[i]);
        }
        Sentences.is("rest(71)", x.rest(71), 0);
        Sentences.is("rest(71) of 72", Sentences.high("d1 6;p1 9;p1 9;p1 9;p1 9;p1 9;p1 9;p1 9;p1 9;").rest(71), 73);
        Sentences.is("rest(0) without a LINE", new EdgeEchoes().rest(0), 0);
        Sentences.says("OUTSIDE.");
        for (int i : Twins.beyond(0, 71)) {
            Sentences.refused(Twins.ALL, "rest(" + i + ")", y -> y.rest(i), OUTSIDE);
        }
    }

    private static void sees() {
        Sentences.says("SEES (what 0), DECEIVED (1).");
        EdgeEchoes x = Sentences.high("d0 6;p9 1;g0 0 7;g3 0 7;");
        // 6, 12, 6, 0 VOLTS: the plain one sees a 1 behind 2, 6, 10; the turned one all the others.
        for (int n = 0; n <= 200; n++) {
            boolean top = n % 4 == 2;
            Sentences.is("sees(0, " + n + ", 0)", x.sees(0, n, 0), top ? 1 : 0);
            Sentences.is("sees(1, " + n + ", 0)", x.sees(1, n, 0), top || n == 0 ? 0 : 1);
        }
        for (int n : new int[] {0, 1, 2, 3, 4, 5, 6, 7, 199, 200}) {
            int edges = (n + 2) / 4 + (n + 1) / 4;
            Sentences.is("sees(0, " + n + ", 1)", x.sees(0, n, 1), edges);
            Sentences.is("sees(1, " + n + ", 1)", x.sees(1, n, 1), edges + (n > 0 ? 1 : 0));
        }
        Sentences.says("UNKNOWN, OUTSIDE.");
        for (int g : Twins.beyond(0, 5)) {
            Sentences.refused(Twins.ALL, "sees(" + g + ", 0, 0)", y -> y.sees(g, 0, 0), UNKNOWN);
        }
        Sentences.refused(Twins.WITHOUT_LINE, "sees(0, 0, 0)", y -> y.sees(0, 0, 0), UNKNOWN);
        Sentences.refused(List.of(Twins.BUSY), "sees(4, 0, 0)", y -> y.sees(4, 0, 0), UNKNOWN);
        for (int n : Twins.beyond(0, 200)) {
            Sentences.refused(Twins.WITH_LINE, "sees(0, " + n + ", 0)", y -> y.sees(0, n, 0), OUTSIDE);
        }
        for (int what : Twins.beyond(0, 1)) {
            Sentences.refused(Twins.WITH_LINE, "sees(0, 0, " + what + ")", y -> y.sees(0, 0, what), OUTSIDE);
        }
    }

    private static void noNoise() {
        Sentences.says("NO NOISE.");
        for (Twins.Stand stand : Twins.ALL) {
            EdgeEchoes x = stand.made();
            Sentences.is("noNoise(0, 0)", x.noNoise(0, 0), 1000000000);
            Sentences.is("noNoise(1, 0)", x.noNoise(1, 0), 0);
            Sentences.is("noNoise(2, 90)", x.noNoise(2, 90), 810000000);
            Sentences.is("noNoise(60, 100)", x.noNoise(60, 100), 1000000000);
        }
        Sentences.says("OUTSIDE.");
        for (int n : Twins.beyond(0, 60)) {
            Sentences.refused(Twins.ALL, "noNoise(" + n + ", 50)", x -> x.noNoise(n, 50), OUTSIDE);
        }
        for (int q : Twins.beyond(0, 100)) {
            Sentences.refused(Twins.ALL, "noNoise(1, " + q + ")", x -> x.noNoise(1, q), OUTSIDE);
        }
    }

    private static void see() {
        Sentences.says("SEEN (v or more: is): how much.");
        EdgeEchoes x = Due.lineOf("d10 6;p10 2;e2 10;");
        Sentences.is("6000 or more behind 2", x.see(2, 6000, true), 1);
        Sentences.is("a cut", x.couldBe(1), 2);
        x.tear();
        Sentences.is("less than 6000 behind 2", x.see(2, 6000, false), 1);
        Sentences.is("a short", x.couldBe(1), 3);
        for (int k = 2; k <= 6; k++) {
            Sentences.is("see " + k, x.see(k == 2 ? 1 : 150, k == 2 ? 0 : 99000, k == 2), k);
        }
        Sentences.is("a short still", x.couldBe(1), 3);
        Sentences.says("OUTSIDE, FULL (6).");
        for (int t : Twins.beyond(1, 150)) {
            Sentences.refused(Twins.ALL, "see(" + t + ", 0, true)", y -> y.see(t, 0, true), OUTSIDE);
        }
        for (int v : Twins.beyond(0, 99000)) {
            Sentences.refused(Twins.ALL, "see(1, " + v + ", false)", y -> y.see(1, v, false), OUTSIDE);
        }
        Sentences.refused(FILLED, "see(1, 0, true)", y -> y.see(1, 0, true), FULL);
        Sentences.refused(FILLED, "see(150, 99000, false)", y -> y.see(150, 99000, false), FULL);
    }

    private static void could(EdgeEchoes x, String when, int many, int least, int greatest) {
        Sentences.is(when + ": couldBe(0)", x.couldBe(0), many);
        Sentences.is(when + ": couldBe(1)", x.couldBe(1), least);
        Sentences.is(when + ": couldBe(2)", x.couldBe(2), greatest);
    }

    private static void couldBeAndLook() {
        Sentences.says("COULD BE: what = 0 how many, 1 the least, 2 the greatest; NONE.");
        // A driver of the wire's ohms: 3000 at first, 6000 when a cut, 0 when a short has sent it back.
        EdgeEchoes x = Due.lineOf("d10 6;p10 5;e2 10;");
        could(x, "nothing seen", 8, 2, 9);
        x.see(3, 3001, false);
        could(x, "no cut at 1", 7, 3, 9);
        x.see(3, 3000, true);
        could(x, "no short at 1", 6, 4, 9);
        x.see(4, 1, false);
        could(x, "a short at 2", 1, 5, 5);
        x.see(4, 3000, true);
        could(x, "nothing fits", 0, NONE, NONE);
        could(new EdgeEchoes(), "no LINE", 0, NONE, NONE);
        Sentences.says("OUTSIDE.");
        for (int what : Twins.beyond(0, 2)) {
            Sentences.refused(Twins.ALL, "couldBe(" + what + ")", y -> y.couldBe(what), OUTSIDE);
        }
        Sentences.says("LOOK; NONE.");
        EdgeEchoes y = Due.lineOf("d10 6;p10 5;e2 10;");
        // Cuts, shorts, others behind 2: 1, 1, 6; behind 4: 2, 2, 4; behind 6: 3, 3, 2; behind 8: 4, 4.
        Sentences.is("look()", y.look(), 6);
        y.cut(1);
        Sentences.is("all alike behind a cut", y.look(), NONE);
        Sentences.is("without a LINE", new EdgeEchoes().look(), NONE);
    }

    private static void book() {
        Sentences.says("An entry behind THE BOOK (0 .. 9999): how many.");
        EdgeEchoes x = Due.lineOf(LINE);
        for (int k = 1; k <= 20; k++) {
            Sentences.is("write " + k, x.write(k % 3, k == 20 ? 9999 : 0), k);
        }
        Sentences.is("the last is wrong", x.judge(), 19);
        Sentences.says("UNKNOWN, OUTSIDE, FULL (20).");
        for (int g : Twins.beyond(0, 5)) {
            Sentences.refused(Twins.ALL, "write(" + g + ", 0)", y -> y.write(g, 0), UNKNOWN);
        }
        Sentences.refused(Twins.WITHOUT_LINE, "write(0, 0)", y -> y.write(0, 0), UNKNOWN);
        Sentences.refused(List.of(Twins.BUSY), "write(4, 0)", y -> y.write(4, 0), UNKNOWN);
        for (int edges : Twins.beyond(0, 9999)) {
            Sentences.refused(Twins.WITH_LINE, "write(0, " + edges + ")", y -> y.write(0, edges), OUTSIDE);
        }
        Sentences.refused(FILLED, "write(0, 0)", y -> y.write(0, 0), FULL);
        Sentences.refused(FILLED, "write(1, 9999)", y -> y.write(1, 9999), FULL);
        Sentences.says("WRONG; NONE.");
        EdgeEchoes z = Due.lineOf("d0 9;p9 1;e2 9;g0 0 9;g3 0 9;");
        Sentences.is("no BOOK", z.judge(), NONE);
        z.write(0, 0);
        z.write(1, 1);
        z.write(0, 1);
        Sentences.is("at first", z.judge(), 1);
        z.tick(1);
        Sentences.is("behind a tick", z.judge(), 2);
        z.drive(true);
        z.tick(1);
        Sentences.is("behind another", z.judge(), 0);
        z.undo(2);
        z.tear();
        z.write(1, 1);
        Sentences.is("as written", z.judge(), NONE);
    }

    private static void tear() {
        Sentences.says("Nothing SEEN, no BOOK: how much both had.");
        EdgeEchoes x = Twins.FILLED.made();
        Sentences.is("tear()", x.tear(), 26);
        Sentences.is("SEEN", x.told(15), 0);
        Sentences.is("BOOK", x.told(16), 0);
        Sentences.is("all fits", x.couldBe(0), 8);
        Sentences.is("nothing is wrong", x.judge(), NONE);
        Sentences.is("again", x.tear(), 0);
        Sentences.is("see anew", x.see(150, 99000, false), 1);
        Sentences.is("what was torn does not come again", x.couldBe(0), 8);
        Sentences.is("write anew", x.write(0, 0), 1);
        Sentences.is("both", x.tear(), 2);
        Sentences.is("no deed", x.told(17), 12);
    }

    private static void seed() {
        Sentences.says("THE SEED becomes v (0 .. 2147483647): what it was.");
        EdgeEchoes x = new EdgeEchoes();
        int was = 0;
        for (int v : new int[] {2147483647, 0, 1, 2147483646, 12345}) {
            Sentences.is("seed(" + v + ")", x.seed(v), was);
            was = v;
        }
        Sentences.says("OUTSIDE.");
        for (int v : new int[] {-1, Integer.MIN_VALUE}) {
            Sentences.refused(Twins.ALL, "seed(" + v + ")", y -> y.seed(v), OUTSIDE);
        }
    }

    private static void keep() {
        Sentences.says("IMAGE i becomes what is so (nothing can be undone then): 1.");
        for (int i = 0; i <= 1; i++) {
            EdgeEchoes x = Sentences.high(LINE);
            x.tick(4);
            Sentences.is("keep(" + i + ")", x.keep(i), 1);
            Sentences.is("told(17)", x.told(17), 0);
            Sentences.is("undo(1)", x.undo(1), NOT);
            Sentences.is("TICKS stay", x.told(10), 4);
            x.tick(5);
            Sentences.is("keep(" + i + ") over it", x.keep(i), 1);
            x.tick(6);
            x.goBack(i);
            Sentences.is("TICKS of the later", x.told(10), 9);
        }
        Sentences.says("UNKNOWN.");
        for (int i : Twins.beyond(0, 1)) {
            Sentences.refused(Twins.ALL, "keep(" + i + ")", x -> x.keep(i), UNKNOWN);
        }
    }

    private static void goBack() {
        Sentences.says("What is so becomes IMAGE i (nothing can be undone then): 1.");
        for (int i = 0; i <= 1; i++) {
            EdgeEchoes x = used();
            x.tear();
            x.see(3, 3, true);
            Due.feed(x, "d1");
            Sentences.is("goBack(" + i + ")", x.goBack(i), 1);
            Sentences.is("told(17)", x.told(17), 0);
            Sentences.is("undo(1)", x.undo(1), NOT);
            Sentences.is("TICKS", x.told(10), 3);
            Sentences.is("place(1)", x.place(1), 0);
            Sentences.is("OHMS", x.wire(0, 0), 20);
            Sentences.is("KIND", x.told(8), 2);
            Sentences.is("R", x.told(5), 10);
            Sentences.is("SEEN is none of it", x.told(15), 1);
            Sentences.is("nor THE BOOK", x.told(16), 0);
            Sentences.is("nor THE TEXT", x.told(4), 2);
            x.tick(9);
            Sentences.is("goBack(" + i + ") again", x.goBack(i), 1);
            Sentences.is("TICKS again", x.told(10), 3);
        }
        Sentences.says("UNKNOWN, NOT: it was not kept.");
        for (int i : Twins.beyond(0, 1)) {
            Sentences.refused(Twins.ALL, "goBack(" + i + ")", x -> x.goBack(i), UNKNOWN);
        }
        Sentences.refused(List.of(Twins.NEW, Twins.BLANKED, Twins.FILLED), "goBack(0)", x -> x.goBack(0), NOT);
        Sentences.refused(List.of(Twins.NEW, Twins.BLANKED, Twins.BUSY), "goBack(1)", x -> x.goBack(1), NOT);
    }
}
