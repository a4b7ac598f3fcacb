import java.util.List;

/** Every boundary that promises 10 to 20 name: ticks, the driver, places, pieces, ends, drifts, what is undone. */
public final class BoundsDeedsTest {
    private static final int UNKNOWN = EdgeEchoes.UNKNOWN, OUTSIDE = EdgeEchoes.OUTSIDE;
    private static final int NOT = EdgeEchoes.NOT, FULL = EdgeEchoes.FULL, NONE = EdgeEchoes.NONE;

    public static void main(String[] args) {
        tickRefusals();
        tickFrom1To50();
        ticksAbove90000();
        driveRefusals();
        driveFromNextTickOn();
        placeRefusals();
        placesThatThereAreNot();
        placeThatIsSoAlready();
        placeFirstAndLast();
        pieceRefusals();
        pieceFrom1To99();
        endRefusals();
        endOhmsNoMatter();
        endFrom1To99();
        ohmsRefusals();
        ohmsFrom0To99();
        quietRefusals();
        quietEdgesOfAll();
        driftRefusals();
        driftFrom1To50();
        driftOfFewCells();
        driftOfEachDraw();
        undoRefusals();
        undoneOneByOne();
        twelveAtMost();
        whatIsNoDeed();
        undoneSinceTextOrImage();
        Due.end();
    }

    /** tick: "(1 .. 50) .. OUTSIDE, NOT: no LINE" */
    private static void tickRefusals() {
        for (int n : Twins.beyond(1, 50)) {
            Twins.refused(Twins.ALL, "tick(" + n + ")", x -> x.tick(n), OUTSIDE);
        }
        for (int n : new int[] {1, 50}) {
            Twins.refused(Twins.WITHOUT_LINE, "tick(" + n + ")", x -> x.tick(n), NOT);
        }
    }

    private static void tickFrom1To50() {
        for (int n = 1; n <= 50; n++) {
            EdgeEchoes x = Due.lineOf("d1 1;p1 2;");
            Due.is("tick(" + n + ")", x.tick(n), n);
            Due.is("TICKS", x.told(10), n);
            Due.is("one deed", x.told(17), 1);
        }
        EdgeEchoes once = Twins.BUSY.made();
        EdgeEchoes often = Twins.BUSY.made();
        once.tick(50);
        for (int k = 0; k < 50; k++) {
            often.tick(1);
        }
        for (int i = 0; i < 9; i++) {
            Due.is("50 at once and one by one: ON", once.cell(i, 1), often.cell(i, 1));
            Due.is("50 at once and one by one: BACK", once.cell(i, 2), often.cell(i, 2));
        }
    }

    /** "FULL: TICKS are above 90000": no 512 calls come so far, but the rule is held to all the same. */
    private static void ticksAbove90000() {
        EdgeEchoes x = Due.lineOf("d1 1;");
        for (int k = 0; k < 1799; k++) {
            x.tick(50);
        }
        Due.is("at 89950", x.told(10), 89950);
        Due.is("tick(50) to 90000", x.tick(50), 90000);
        Due.is("tick(50) at 90000", x.tick(50), 90050);
        Due.is("tick(1) at 90050", x.tick(1), FULL);
        Due.is("drift(1) at 90050", x.drift(1), FULL);
        Due.is("tick(0) at 90050", x.tick(0), OUTSIDE);
        Due.is("drift(51) at 90050", x.drift(51), OUTSIDE);
        Due.is("it changed nothing", x.told(10), 90050);
        Due.is("no deed either", x.undo(1), 90000);
        Due.is("drift(1) at 90000", x.drift(1), 90001);
        Due.is("tick(1) at 90001", x.tick(1), FULL);
        Due.is("drift(1) at 90001", x.drift(1), FULL);
        Due.is("other deeds are not full", x.ohms(5), 1);
    }

    /** drive: "what it was (1, 0). NOT: no LINE." */
    private static void driveRefusals() {
        Twins.refused(Twins.WITHOUT_LINE, "drive(true)", x -> x.drive(true), NOT);
        Twins.refused(Twins.WITHOUT_LINE, "drive(false)", x -> x.drive(false), NOT);
    }

    /** "HIGH, LOW: THE DRIVER is so from the next TICK on." */
    private static void driveFromNextTickOn() {
        EdgeEchoes x = Due.lineOf("d0 9;p9 1;e2 9;");
        Due.is("it was LOW", x.drive(false), 0);
        Due.is("still LOW", x.drive(true), 0);
        Due.is("it was HIGH", x.drive(true), 1);
        Due.is("no tick yet", x.cell(0, 0), 1000000);
        x.tick(1);
        Due.is("from the next on", x.cell(0, 0), 1009000);
        Due.is("it was HIGH still", x.drive(false), 1);
        Due.is("no tick yet", x.cell(0, 0), 1009000);
        x.tick(1);
        Due.is("from the next on", x.cell(0, 0), 1000000);
        Due.is("each was a deed", x.told(17), 6);
    }

    /** cut, brief, mend: "OUTSIDE (1 .. 71)" */
    private static void placeRefusals() {
        for (int i : Twins.beyond(1, 71)) {
            Twins.refused(Twins.ALL, "cut(" + i + ")", x -> x.cut(i), OUTSIDE);
            Twins.refused(Twins.ALL, "brief(" + i + ")", x -> x.brief(i), OUTSIDE);
            Twins.refused(Twins.ALL, "mend(" + i + ")", x -> x.mend(i), OUTSIDE);
        }
    }

    /** "NOT: no such PLACE": without a line, without cells, with one, behind the last. */
    private static void placesThatThereAreNot() {
        for (int i : new int[] {1, 71}) {
            for (Twins.Stand stand : List.of(Twins.NEW, Twins.NO_LINE, Twins.BLANKED, Twins.NO_CELLS, Twins.ONE_CELL)) {
                noSuchPlace(stand, i);
            }
        }
        noSuchPlace(Twins.BUSY, 9);
        noSuchPlace(Twins.BUSY, 71);
        noSuchPlace(Twins.FILLED, 5);
    }

    private static void noSuchPlace(Twins.Stand stand, int i) {
        Twins.refused(stand, "cut(" + i + ")", x -> x.cut(i), NOT);
        Twins.refused(stand, "brief(" + i + ")", x -> x.brief(i), NOT);
        Twins.refused(stand, "mend(" + i + ")", x -> x.mend(i), NOT);
    }

    /** "NOT: .. it is CUT", "it is SHORT", "it is WHOLE" */
    private static void placeThatIsSoAlready() {
        Twins.refused(Twins.BUSY, "cut(3)", x -> x.cut(3), NOT);
        Twins.refused(Twins.BUSY, "brief(6)", x -> x.brief(6), NOT);
        Twins.refused(Twins.BUSY, "mend(1)", x -> x.mend(1), NOT);
        Twins.refused(Twins.BUSY, "mend(8)", x -> x.mend(8), NOT);
        Twins.refused(Twins.LARGEST, "cut(71)", x -> x.cut(71), NOT);
        Twins.refused(Twins.LARGEST, "brief(1)", x -> x.brief(1), NOT);
        Twins.refused(Twins.LARGEST, "mend(70)", x -> x.mend(70), NOT);
        // Each of the three from each of the three.
        for (int was = 0; was <= 2; was++) {
            for (int to = 0; to <= 2; to++) {
                EdgeEchoes x = Due.lineOf("d1 1;p1 3;");
                turn(x, 2, was);
                Due.is("from " + was + " to " + to, turn(x, 2, to), was == to ? NOT : was);
                Due.is("it is " + to, x.place(2), to);
                Due.is("the place ahead", x.place(1), 0);
                Due.is("deeds", x.told(17), (was == 0 ? 0 : 1) + (was == to ? 0 : 1));
            }
        }
    }

    private static int turn(EdgeEchoes x, int i, int to) {
        return to == 0 ? x.mend(i) : to == 1 ? x.cut(i) : x.brief(i);
    }

    private static void placeFirstAndLast() {
        for (int to = 1; to <= 2; to++) {
            EdgeEchoes x = Due.lineOf("d0 9;p9 9;p9 9;p9 9;p9 9;p9 9;p9 9;p9 9;p9 9;e2 9;");
            Due.is("place 1 to " + to, turn(x, 1, to), 0);
            Due.is("place 71 to " + to, turn(x, 71, to), 0);
            Due.is("place 1 is " + to, x.place(1), to);
            Due.is("place 71 is " + to, x.place(71), to);
            Due.is("place 2", x.place(2), 0);
            Due.is("place 70", x.place(70), 0);
            Due.is("mend(1)", x.mend(1), to);
            x.drive(true);
            x.tick(50);
            x.tick(22);
            Due.is("the last cell ahead of it", x.cell(70, 2), to == 1 ? 1009000 : 991000);
            Due.is("nothing behind it", x.cell(71, 1), 1000000);
            Due.is("mend(71)", x.mend(71), to);
            x.tick(1);
            Due.is("it goes on", x.cell(71, 1), 1009000);
        }
    }

    /** piece: "(Z 1 .. 99) .. UNKNOWN, OUTSIDE." */
    private static void pieceRefusals() {
        for (int z : new int[] {1, 99, 0, 100, Integer.MIN_VALUE, Integer.MAX_VALUE}) {
            for (int p : Twins.beyond(0, 7)) {
                Twins.refused(Twins.ALL, "piece(" + p + ", " + z + ")", x -> x.piece(p, z), UNKNOWN);
            }
            for (Twins.Stand stand : List.of(Twins.NEW, Twins.NO_LINE, Twins.BLANKED, Twins.NO_CELLS)) {
                Twins.refused(stand, "piece(0, " + z + ")", x -> x.piece(0, z), UNKNOWN);
            }
            Twins.refused(Twins.ONE_CELL, "piece(1, " + z + ")", x -> x.piece(1, z), UNKNOWN);
            Twins.refused(Twins.BUSY, "piece(3, " + z + ")", x -> x.piece(3, z), UNKNOWN);
        }
        for (int z : Twins.beyond(1, 99)) {
            Twins.refused(Twins.ONE_CELL, "piece(0, " + z + ")", x -> x.piece(0, z), OUTSIDE);
            Twins.refused(Twins.BUSY, "piece(2, " + z + ")", x -> x.piece(2, z), OUTSIDE);
            Twins.refused(Twins.LARGEST, "piece(7, " + z + ")", x -> x.piece(7, z), OUTSIDE);
        }
    }

    private static void pieceFrom1To99() {
        EdgeEchoes x = Twins.LARGEST.made();
        Due.is("the first to 1", x.piece(0, 1), 50);
        Due.is("the first to 99", x.piece(0, 99), 1);
        Due.is("the last to 99", x.piece(7, 99), 50);
        Due.is("the last to 1", x.piece(7, 1), 99);
        Due.is("to what it is", x.piece(7, 1), 1);
        Due.is("each a deed", x.told(17), 5);
        Due.is("OHMS of the first", x.wire(0, 0), 99);
        Due.is("OHMS of the last", x.wire(7, 0), 1);
        Due.is("OHMS of the second", x.wire(1, 0), 25);
        Due.is("its CELLS", x.wire(7, 1), 9);
        // All cells of a piece are of its ohms, and no others: only at its two sides does a wave run back.
        EdgeEchoes y = Due.lineOf("d50 8;p50 2;p50 3;p50 2;e2 50;");
        y.piece(1, 99);
        y.drive(true);
        y.tick(3);
        Due.is("ahead of it", y.cell(1, 2), 1000000 + 4000 * 49 / 149);
        Due.is("into it", y.cell(2, 1), 1000000 + 2 * 99 * 4000 / 149);
        y.tick(2);
        Due.is("along it", y.cell(4, 1), 1000000 + 2 * 99 * 4000 / 149);
        Due.is("nothing runs back in it", y.cell(3, 2), 1000000);
        y.tick(1);
        Due.is("at its end", y.cell(4, 2), 1000000 - 5315 * 49 / 149);
    }

    /** end: "(K 0 .. 2, R 1 .. 99 ..) .. OUTSIDE, NOT: no LINE." */
    private static void endRefusals() {
        for (int k : Twins.beyond(0, 2)) {
            for (int r : new int[] {1, 99, 0, 100}) {
                Twins.refused(Twins.ALL, "end(" + k + ", " + r + ")", x -> x.end(k, r), OUTSIDE);
            }
        }
        for (int r : Twins.beyond(1, 99)) {
            Twins.refused(Twins.ALL, "end(2, " + r + ")", x -> x.end(2, r), OUTSIDE);
        }
        for (int k = 0; k <= 2; k++) {
            int kind = k;
            Twins.refused(Twins.WITHOUT_LINE, "end(" + kind + ", 1)", x -> x.end(kind, 1), NOT);
            Twins.refused(Twins.WITHOUT_LINE, "end(" + kind + ", 99)", x -> x.end(kind, 99), NOT);
        }
    }

    /** "R 1 .. 99, no matter but for K 2" */
    private static void endOhmsNoMatter() {
        for (int r : new int[] {1, 99, 0, 100, -1, Integer.MIN_VALUE, Integer.MAX_VALUE}) {
            for (int k = 0; k <= 1; k++) {
                EdgeEchoes x = Due.lineOf("d10 6;p10 1;e2 30;");
                Due.is("end(" + k + ", " + r + ")", x.end(k, r), 2);
                Due.is("KIND", x.told(8), k);
                Due.is("R", x.told(9), 0);
                x.drive(true);
                x.tick(2);
                Due.is("back of " + k + " by " + r, x.cell(0, 2), k == 0 ? 1003000 : 997000);
                int kind = k;
                int ohms = r;
                Twins.refused(Twins.NEW, "end(" + k + ", " + r + ")", y -> y.end(kind, ohms), NOT);
            }
        }
    }

    private static void endFrom1To99() {
        EdgeEchoes x = Due.lineOf("d50 8;p50 1;");
        x.drive(true);
        x.tick(1);
        Due.is("end(2, 1)", x.end(2, 1), 0);
        x.tick(1);
        Due.is("of 1", x.cell(0, 2), 1000000 - 4000 * 49 / 51);
        Due.is("end(2, 99)", x.end(2, 99), 2);
        Due.is("R", x.told(9), 99);
        x.tick(1);
        Due.is("of 99", x.cell(0, 2), 1000000 + 4000 * 49 / 149);
        Due.is("end(2, 99) again", x.end(2, 99), 2);
        Due.is("end(1, 1)", x.end(1, 1), 2);
        Due.is("end(0, 1)", x.end(0, 1), 1);
        Due.is("end(0, 1) again", x.end(0, 1), 0);
        Due.is("each a deed", x.told(17), 10);
    }

    /** ohms: "(0 .. 99) .. OUTSIDE, NOT: no LINE." */
    private static void ohmsRefusals() {
        for (int r : Twins.beyond(0, 99)) {
            Twins.refused(Twins.ALL, "ohms(" + r + ")", x -> x.ohms(r), OUTSIDE);
        }
        for (int r : new int[] {0, 99}) {
            Twins.refused(Twins.WITHOUT_LINE, "ohms(" + r + ")", x -> x.ohms(r), NOT);
        }
    }

    private static void ohmsFrom0To99() {
        EdgeEchoes x = Due.lineOf("d7 5;p1 1;e2 1;");
        Due.is("to 0", x.ohms(0), 7);
        x.drive(true);
        x.tick(1);
        Due.is("all of it", x.cell(0, 1), 1005000);
        Due.is("to 99", x.ohms(99), 0);
        Due.is("R", x.told(5), 99);
        x.tick(1);
        Due.is("a hundredth", x.cell(0, 1), 1000050);
        Due.is("to what it is", x.ohms(99), 99);
    }

    /** quiet: "EDGES of all there were. NOT: no LINE." */
    private static void quietRefusals() {
        Twins.refused(Twins.WITHOUT_LINE, "quiet()", EdgeEchoes::quiet, NOT);
    }

    private static void quietEdgesOfAll() {
        EdgeEchoes none = Due.lineOf("d1 1;p1 1;");
        none.tick(9);
        Due.is("no gates", none.quiet(), 0);
        EdgeEchoes x = Due.lineOf("d0 9;p9 1;e2 9;g3 0 9;g0 0 9;g0 0 9;g0 0 9;g0 0 9;g0 0 9;");
        x.tick(1);
        x.drive(true);
        x.tick(1);
        Due.is("the first and the last gate", x.gate(0, 4) * 10 + x.gate(5, 4), 21);
        Due.is("of all six", x.quiet(), 7);
        Due.is("none any more", x.quiet(), 0);
        Due.is("it is a deed", x.undo(2), 2);
        Due.is("of all six again", x.quiet(), 7);
        Due.is("HIGH still", x.told(7), 1);
        Due.is("TICKS still", x.told(10), 2);
    }

    /** drift: "(1 .. 50) .. OUTSIDE, NOT: no LINE"; THE SEED stays as it was, too. */
    private static void driftRefusals() {
        for (int n : Twins.beyond(1, 50)) {
            Twins.refused(Twins.ALL, "drift(" + n + ")", x -> x.drift(n), OUTSIDE);
        }
        for (int n : new int[] {1, 50}) {
            Twins.refused(Twins.WITHOUT_LINE, "drift(" + n + ")", x -> x.drift(n), NOT);
        }
    }

    private static int next(int seed) {
        return (int) ((seed * 1103515245L + 12345L) % (1L << 31));
    }

    private static void driftFrom1To50() {
        for (int n = 1; n <= 50; n++) {
            EdgeEchoes x = Due.lineOf("d1 1;p1 1;");
            Due.is("drift(" + n + ")", x.drift(n), n);
            int seed = 0;
            for (int k = 0; k < n; k++) {
                seed = next(seed);
            }
            Due.is("draws of " + n, x.seed(0), seed);
            Due.is("one deed", x.told(17), 1);
        }
        EdgeEchoes once = Twins.BUSY.made();
        EdgeEchoes often = Twins.BUSY.made();
        once.drift(50);
        for (int k = 0; k < 50; k++) {
            often.drift(1);
        }
        for (int i = 0; i < 9; i++) {
            Due.is("50 at once and one by one", once.cell(i, 0), often.cell(i, 0));
        }
        Due.is("the same seed", once.seed(0), often.seed(0));
    }

    /** "on 3, if N is above 1, a DRAW of N less 1, and 1": a second draw from two cells on. */
    private static void driftOfFewCells() {
        // From 3 the first draw of 8 is 3, as the loop itself shows.
        int seed = seedWhoseFirstDrawIs(3);
        for (int cells = 0; cells <= 9; cells++) {
            EdgeEchoes x = Due.lineOf(cells == 0 ? "d1 1;" : "d1 1;p1 " + cells + ";");
            x.seed(seed);
            x.drift(1);
            int after = next(seed);
            after = cells > 1 ? next(after) : after;
            for (int i = 1; i < cells; i++) {
                Due.is(cells + " cells: place " + i, x.place(i), i == after / 65536 % (cells - 1) + 1 ? 1 : 0);
            }
            Due.is(cells + " cells: LOW", x.told(7), 0);
            Due.is(cells + " cells: seed", x.seed(0), after);
        }
    }

    private static int seedWhoseFirstDrawIs(int draw) {
        for (int seed = 1; seed < 1000000; seed++) {
            if (next(seed) / 65536 % 8 == draw) {
                return seed;
            }
        }
        return NONE;
    }

    /** "on 0, 1 THE DRIVER is HIGH; on 2 LOW; on 3 .. CUT, if it is WHOLE, else WHOLE; on the others nothing; then a TICK" */
    private static void driftOfEachDraw() {
        for (int draw = 0; draw < 8; draw++) {
            int seed = seedWhoseFirstDrawIs(draw);
            for (int was = 0; was < 2; was++) {
                for (int place = 0; place <= 2; place++) {
                    EdgeEchoes x = Due.lineOf("d0 9;p9 2;e2 9;");
                    x.drive(was == 1);
                    turn(x, 1, place);
                    x.seed(seed);
                    String when = "draw " + draw + " of " + was + ", " + place;
                    Due.is(when + ": drift(1)", x.drift(1), 1);
                    int high = draw <= 1 ? 1 : draw == 2 ? 0 : was;
                    Due.is(when + ": HIGH", x.told(7), high);
                    Due.is(when + ": the tick behind it", x.cell(0, 1), 1000000 + 9000 * high);
                    Due.is(when + ": place", x.place(1), draw != 3 ? place : place == 0 ? 1 : 0);
                    Due.is(when + ": seed", x.seed(0), draw == 3 ? next(next(seed)) : next(seed));
                }
            }
        }
    }

    /** undo: "(1 .. 12) .. OUTSIDE, NOT: not so many." */
    private static void undoRefusals() {
        for (int n : Twins.beyond(1, 12)) {
            Twins.refused(Twins.ALL, "undo(" + n + ")", x -> x.undo(n), OUTSIDE);
        }
        for (int n : new int[] {1, 12}) {
            Twins.refused(Twins.WITHOUT_LINE, "undo(" + n + ")", x -> x.undo(n), NOT);
        }
        Twins.refused(Twins.LARGEST, "undo(1) behind an image", x -> x.undo(1), NOT);
        Twins.refused(Twins.NO_CELLS, "undo(2) of one", x -> x.undo(2), NOT);
        Twins.refused(Twins.ONE_CELL, "undo(3) of two", x -> x.undo(3), NOT);
        Twins.refused(Twins.BUSY, "undo(7) of six", x -> x.undo(7), NOT);
        Twins.refused(Twins.BUSY, "undo(12) of six", x -> x.undo(12), NOT);
    }

    private static String all(EdgeEchoes x) {
        StringBuilder s = new StringBuilder();
        for (int what = 5; what <= 11; what++) {
            s.append(x.told(what)).append(' ');
        }
        for (int i = 0; i < 4; i++) {
            s.append(x.cell(i, 1)).append(' ').append(x.cell(i, 2)).append(' ').append(x.place(i + 1)).append(' ');
        }
        for (int k = 0; k < 2; k++) {
            s.append(x.wire(k, 0)).append(' ').append(x.gate(k, 3)).append(' ').append(x.gate(k, 4)).append(' ');
        }
        return s.toString();
    }

    private static final String LINE = "d10 6;p20 2;p40 2;e2 20;g0 0 4;g3 3 2;";

    /** The ten kinds of deeds, each of which changes something here. */
    private static void deed(EdgeEchoes x, int k) {
        switch (k) {
            case 0: x.drive(true); break;
            case 1: x.tick(3); break;
            case 2: x.cut(2); break;
            case 3: x.brief(3); break;
            case 4: x.mend(2); break;
            case 5: x.piece(1, 70); break;
            case 6: x.end(2, 30); break;
            case 7: x.ohms(40); break;
            case 8: x.quiet(); break;
            default: x.drift(4); break;
        }
    }

    /** "the latest deeds (tick(), drive(), ..): all of section 2 is as ahead of them; THE SEED stays" */
    private static void undoneOneByOne() {
        for (int n = 1; n <= 10; n++) {
            EdgeEchoes x = Due.lineOf(LINE);
            String[] ahead = new String[11];
            ahead[0] = all(x);
            for (int k = 0; k < 10; k++) {
                deed(x, k);
                ahead[k + 1] = all(x);
                Due.holds("deed " + k + " changes something", !ahead[k].equals(ahead[k + 1]));
                Due.is("deeds behind " + k, x.told(17), k + 1);
            }
            int seed = x.seed(0);
            x.seed(seed);
            Due.is("undo(" + n + ")", x.undo(n), ticksOf(ahead[10 - n]));
            Due.holds("as ahead of the latest " + n, ahead[10 - n].equals(all(x)));
            Due.is("left", x.told(17), 10 - n);
            Due.is("the seed stays", x.seed(0), seed);
        }
    }

    private static int ticksOf(String all) {
        return Integer.parseInt(all.split(" ")[5]);
    }

    /** "(12 at most are kept)" */
    private static void twelveAtMost() {
        for (int deeds = 11; deeds <= 26; deeds++) {
            EdgeEchoes x = Due.lineOf("d0 1;p1 1;");
            for (int k = 1; k <= deeds; k++) {
                Due.is("ohms(" + k + ")", x.ohms(k), k - 1);
            }
            int kept = Math.min(12, deeds);
            Due.is("kept of " + deeds, x.told(17), kept);
            Due.is("undo(12) of " + deeds, x.undo(12), deeds < 12 ? NOT : 0);
            Due.is("R of " + deeds, x.told(5), deeds < 12 ? deeds : deeds - 12);
            Due.is("left of " + deeds, x.told(17), deeds < 12 ? deeds : 0);
            Due.is("one more of " + deeds, x.undo(1), deeds < 12 ? 0 : NOT);
        }
        EdgeEchoes x = Twins.FILLED.made();
        Due.is("twelve", x.told(17), 12);
        Due.is("all twelve", x.undo(12), 0);
        Due.is("the thirteenth is not kept", x.undo(1), NOT);
        Due.is("it stays done", x.told(7), 1);
    }

    /** Calls that are no deeds, and deeds that are refused, cannot be undone. */
    private static void whatIsNoDeed() {
        EdgeEchoes x = Due.lineOf(LINE);
        x.tick(2);
        x.feed('x');
        x.line();
        x.seed(5);
        x.see(1, 1, true);
        x.write(0, 0);
        x.judge();
        x.tear();
        x.volts(0, 9, 1);
        x.rest(0);
        x.sees(0, 9, 1);
        x.couldBe(0);
        x.look();
        x.told(13);
        x.mend(1);
        x.cut(9);
        x.tick(0);
        x.drift(51);
        x.piece(9, 9);
        x.end(3, 3);
        x.ohms(-1);
        x.goBack(0);
        x.keep(2);
        Due.is("one deed", x.told(17), 1);
        Due.is("undone", x.undo(1), 0);
        Due.is("undoing is none", x.undo(1), NOT);
    }

    /** "since the text or IMAGE" */
    private static void undoneSinceTextOrImage() {
        EdgeEchoes x = Due.lineOf(LINE);
        x.tick(1);
        x.keep(0);
        Due.is("since an image is kept", x.undo(1), NOT);
        x.tick(2);
        x.tick(3);
        Due.is("two since", x.undo(2), 1);
        x.tick(4);
        x.goBack(0);
        Due.is("since one is gone back to", x.undo(1), NOT);
        x.tick(5);
        x.goBack(1);
        x.keep(5);
        Due.is("refused ones do not matter", x.told(17), 1);
        Due.told(x, "d1");
        Due.is("nor a text with a fault", x.told(17), 1);
        Due.told(x, LINE);
        Due.is("since the text", x.undo(1), NOT);
        x.tick(1);
        Due.told(x, "");
        Due.is("since an empty one", x.undo(1), NOT);
    }
}
