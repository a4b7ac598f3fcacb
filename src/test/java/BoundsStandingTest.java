import java.util.List;

/** Every boundary that section 2 and promises 5 to 9 name: what is told, wires, cells, places, gates, waves. */
public final class BoundsStandingTest {
    private static final int UNKNOWN = EdgeEchoes.UNKNOWN, OUTSIDE = EdgeEchoes.OUTSIDE, NONE = EdgeEchoes.NONE;
    private static final String EIGHT_NINES = "p1 9;p1 9;p1 9;p1 9;p1 9;p1 9;p1 9;p1 9;";

    public static void main(String[] args) {
        toldOutside();
        toldWithoutLine();
        toldAtFirst();
        toldOfNoCells();
        wireRefusals();
        wireOfLastPiece();
        cellRefusals();
        cellThatThereIsNot();
        placeRefusals();
        placesThereAre();
        gateRefusals();
        gateOfLastGate();
        gateWithoutItsCell();
        gatesAtTheirVolts();
        gateThatHoldsAtHalf();
        slowGateBehindThree();
        turnedGateAtFirst();
        seesAsSet();
        firstOfGate();
        edgesUpTo9999();
        wavesUpTo400000();
        wavesCut();
        lowIsNothing();
        overAtLeastNothing();
        driverFrom0To99();
        comesBack();
        Due.end();
    }

    /** told: "OUTSIDE." */
    private static void toldOutside() {
        for (int what : Twins.beyond(0, 17)) {
            Twins.refused(Twins.ALL, "told(" + what + ")", x -> x.told(what), OUTSIDE);
        }
        for (Twins.Stand stand : Twins.ALL) {
            EdgeEchoes x = stand.made();
            for (int what = 0; what <= 17; what++) {
                Due.holds(stand.name + ": told(" + what + ") is told", x.told(what) >= NONE);
            }
        }
    }

    /** told: "(5 to 14 without a LINE 0, 14 NONE)" */
    private static void toldWithoutLine() {
        for (Twins.Stand stand : Twins.WITHOUT_LINE) {
            EdgeEchoes x = stand.made();
            for (int what = 0; what <= 14; what++) {
                if (what != 4) {
                    Due.is(stand.name + ": told(" + what + ")", x.told(what), what == 14 ? NONE : 0);
                }
            }
        }
        EdgeEchoes x = Twins.NO_LINE.made();
        Due.is("letters without a line", x.told(4), 7);
        Due.is("SEEN without a line", x.told(15), 1);
        Due.is("BOOK without a line", x.told(16), 0);
        Due.is("undone without a line", x.told(17), 0);
    }

    /** "TICK 0, LOW, all as at first; nothing SEEN, no BOOK" */
    private static void toldAtFirst() {
        for (Twins.Stand stand : Twins.ALL) {
            EdgeEchoes x = stand.made();
            if (x.told(4) > 0) {
                x.line();
            }
            // Trials leave much behind that a new line must not show: gates that see, and have seen much.
            for (int g = 0; g < 6; g++) {
                x.sees(g, 1, 1);
            }
            int[] due = {1, 1, 3, 3, 0, 4, 5, 0, 0, 0, 0, 0};
            Due.is(stand.name + ": line", Due.told(x, "d4 5;p6 3;g3 0 1;g2 1 1;g1 2 1;"), 3);
            for (int what = 0; what < due.length; what++) {
                Due.is(stand.name + ": told(" + what + ") at first", x.told(what), due[what]);
            }
            Due.is(stand.name + ": SEEN at first", x.told(15), 0);
            Due.is(stand.name + ": BOOK at first", x.told(16), 0);
            Due.is(stand.name + ": undone at first", x.told(17), 0);
            for (int i = 0; i < 3; i++) {
                Due.is(stand.name + ": ON at first", x.cell(i, 1), 1000000);
                Due.is(stand.name + ": BACK at first", x.cell(i, 2), 1000000);
                Due.is(stand.name + ": EDGES at first", x.gate(i, 4), 0);
                Due.is(stand.name + ": sees at first", x.gate(i, 3), 0);
            }
            Due.is(stand.name + ": PLACE 1 at first", x.place(1), 0);
            Due.is(stand.name + ": PLACE 2 at first", x.place(2), 0);
            // 3 volts run along: they are at the slow gate's cell behind ticks 2, 3 and 4.
            x.drive(true);
            x.tick(3);
            Due.is(stand.name + ": slow, two ticks", x.gate(1, 3), 0);
            x.tick(1);
            Due.is(stand.name + ": slow, three ticks", x.gate(1, 3), 1);
        }
    }

    /** "(N 0: no PIECES)": there is a LINE all the same. */
    private static void toldOfNoCells() {
        EdgeEchoes x = Due.lineOf("d9 7;e2 5;g0 0 1;g3 0 1;g1 71 1;g2 71 1;");
        int[] due = {1, 0, 0, 4, 0, 9, 7, 0, 2, 5, 0, 0, 0, 0, NONE, 0, 0, 0};
        for (int what = 0; what <= 17; what++) {
            Due.is("no cells: told(" + what + ")", x.told(what), due[what]);
        }
        Due.is("no cells: drive", x.drive(true), 0);
        Due.is("no cells: tick", x.tick(50), 50);
        Due.is("no cells: only the turned gate sees", x.told(11), 2);
        Due.is("no cells: OVER", x.told(12), 0);
        Due.is("no cells: DRIVER", x.told(13), 0);
        Due.is("no cells: COMES BACK", x.told(14), NONE);
        Due.is("no cells: drift", x.drift(50), 100);
        Due.is("no cells: volts", x.volts(0, 200, 1), 1000000);
        Due.is("no cells: rest", x.rest(0), 0);
        Due.is("no cells: couldBe(0)", x.couldBe(0), 0);
        Due.is("no cells: look", x.look(), NONE);
        Due.is("no cells: end", x.end(1, 1), 2);
        Due.is("no cells: ohms", x.ohms(0), 9);
        Due.is("no cells: quiet", x.quiet(), 1);
        Due.is("no cells: undo", x.undo(6), 0);
    }

    /** wire: "UNKNOWN, OUTSIDE." */
    private static void wireRefusals() {
        for (int what : new int[] {0, 2, -1, 3, Integer.MIN_VALUE, Integer.MAX_VALUE}) {
            for (int p : new int[] {-1, 8, Integer.MIN_VALUE, Integer.MAX_VALUE}) {
                Twins.refused(Twins.ALL, "wire(" + p + ", " + what + ")", x -> x.wire(p, what), UNKNOWN);
            }
            Twins.refused(List.of(Twins.NEW, Twins.NO_LINE, Twins.BLANKED, Twins.NO_CELLS), "wire(0, " + what + ")",
                x -> x.wire(0, what), UNKNOWN);
            Twins.refused(Twins.ONE_CELL, "wire(1, " + what + ")", x -> x.wire(1, what), UNKNOWN);
            Twins.refused(Twins.BUSY, "wire(3, " + what + ")", x -> x.wire(3, what), UNKNOWN);
        }
        for (int what : Twins.beyond(0, 2)) {
            Twins.refused(Twins.ONE_CELL, "wire(0, " + what + ")", x -> x.wire(0, what), OUTSIDE);
            Twins.refused(Twins.BUSY, "wire(2, " + what + ")", x -> x.wire(2, what), OUTSIDE);
            Twins.refused(Twins.LARGEST, "wire(7, " + what + ")", x -> x.wire(7, what), OUTSIDE);
        }
    }

    private static void wireOfLastPiece() {
        EdgeEchoes x = Twins.LARGEST.made();
        int[] ohms = {50, 25, 50, 75, 50, 99, 1, 50};
        for (int p = 0; p < 8; p++) {
            Due.is("OHMS of " + p, x.wire(p, 0), ohms[p]);
            Due.is("CELLS of " + p, x.wire(p, 1), 9);
            Due.is("first CELL of " + p, x.wire(p, 2), 9 * p);
        }
        EdgeEchoes y = Due.lineOf("d1 1;p1 1;p2 1;p3 9;p4 1;");
        int[] first = {0, 1, 2, 11};
        for (int p = 0; p < 4; p++) {
            Due.is("first CELL of " + p, y.wire(p, 2), first[p]);
        }
    }

    /** cell: "(0 .. 71) .. OUTSIDE." */
    private static void cellRefusals() {
        for (int i : Twins.beyond(0, 71)) {
            for (int what : new int[] {0, 1, 2, 3}) {
                Twins.refused(Twins.ALL, "cell(" + i + ", " + what + ")", x -> x.cell(i, what), OUTSIDE);
            }
        }
        for (int what : Twins.beyond(0, 2)) {
            Twins.refused(Twins.ALL, "cell(0, " + what + ")", x -> x.cell(0, what), OUTSIDE);
            Twins.refused(Twins.ALL, "cell(71, " + what + ")", x -> x.cell(71, what), OUTSIDE);
        }
    }

    /** cell: "and 1000000 each (a million; also without such a CELL)" */
    private static void cellThatThereIsNot() {
        for (Twins.Stand stand : Twins.ALL) {
            for (int what = 0; what <= 2; what++) {
                EdgeEchoes x = stand.made();
                for (int i = x.told(2); i <= 71; i++) {
                    Due.is(stand.name + ": cell(" + i + ", " + what + ")", x.cell(i, what), 1000000);
                }
            }
        }
        // A longer line's waves are not seen beyond a shorter one.
        EdgeEchoes x = Due.lineOf("d0 9;" + EIGHT_NINES);
        x.drive(true);
        x.tick(50);
        x.tick(50);
        Due.is("the last cell of 72", x.cell(71, 0), 1018000);
        Due.told(x, "d0 9;p1 1;");
        x.drive(true);
        x.tick(3);
        for (int i = 1; i <= 71; i++) {
            Due.is("beyond one cell: " + i, x.cell(i, 0), 1000000);
        }
    }

    /** place: "(1 .. 71) .. OUTSIDE." */
    private static void placeRefusals() {
        for (int i : Twins.beyond(1, 71)) {
            Twins.refused(Twins.ALL, "place(" + i + ")", x -> x.place(i), OUTSIDE);
        }
    }

    /** "A PLACE i (1 .. N less 1)"; "NONE: there is none." */
    private static void placesThereAre() {
        for (Twins.Stand stand : Twins.ALL) {
            EdgeEchoes x = stand.made();
            int n = x.told(2);
            for (int i = 1; i <= 71; i++) {
                Due.is(stand.name + ": is there a place " + i, x.place(i) == NONE ? 0 : 1, i <= n - 1 ? 1 : 0);
            }
        }
        EdgeEchoes x = Twins.LARGEST.made();
        Due.is("the first of 71", x.place(1), 2);
        Due.is("whole", x.place(2), 0);
        Due.is("whole, too", x.place(70), 0);
        Due.is("the last of 71", x.place(71), 1);
        EdgeEchoes two = Due.lineOf("d1 1;p1 2;");
        Due.is("one place of two cells", two.place(1), 0);
        Due.is("no second", two.place(2), NONE);
    }

    /** gate: "UNKNOWN, OUTSIDE." */
    private static void gateRefusals() {
        for (int what : new int[] {0, 5, -1, 6, Integer.MIN_VALUE, Integer.MAX_VALUE}) {
            for (int g : new int[] {-1, 6, Integer.MIN_VALUE, Integer.MAX_VALUE}) {
                Twins.refused(Twins.ALL, "gate(" + g + ", " + what + ")", x -> x.gate(g, what), UNKNOWN);
            }
            Twins.refused(Twins.WITHOUT_LINE, "gate(0, " + what + ")", x -> x.gate(0, what), UNKNOWN);
            Twins.refused(Twins.ONE_CELL, "gate(2, " + what + ")", x -> x.gate(2, what), UNKNOWN);
            Twins.refused(Twins.BUSY, "gate(4, " + what + ")", x -> x.gate(4, what), UNKNOWN);
        }
        for (int what : Twins.beyond(0, 5)) {
            Twins.refused(Twins.WITH_LINE, "gate(1, " + what + ")", x -> x.gate(1, what), OUTSIDE);
            Twins.refused(Twins.LARGEST, "gate(5, " + what + ")", x -> x.gate(5, what), OUTSIDE);
        }
    }

    private static void gateOfLastGate() {
        EdgeEchoes x = Due.lineOf("d1 1;p1 1;g0 0 1;g1 1 2;g2 2 3;g3 71 99;g0 4 5;g3 0 1;");
        int[] due = {3, 0, 1, 0, 0, 1};
        for (int what = 0; what <= 5; what++) {
            Due.is("gate(5, " + what + ")", x.gate(5, what), due[what]);
        }
        Due.is("the greatest CELL", x.gate(3, 1), 71);
        Due.is("the greatest H", x.gate(3, 2), 99);
    }

    /** "A GATE whose CELL there is not sees 0 VOLTS." */
    private static void gateWithoutItsCell() {
        // Cell 2 is the last, cell 3 is not there.
        EdgeEchoes x = Due.lineOf("d0 9;p5 3;g0 2 1;g0 3 1;g3 2 1;g3 3 1;g1 71 1;g2 71 1;");
        x.drive(true);
        x.tick(3);
        Due.is("only the last cell has volts", x.told(11), 1 + 8);
        Due.is("edges of the one that is there", x.gate(0, 4), 1);
        Due.is("edges of the one that is not", x.gate(1, 4), 0);
        Due.is("FIRST without its cell", x.gate(1, 5), NONE);
        Due.is("FIRST of a turned one", x.gate(3, 5), 0);
        Due.is("DECEIVED without its cell", x.sees(1, 200, 1), 0);
    }

    /** Volts of 1000, of 999 and of 2000 at the one cell, by the driver's ohms and the end's. */
    private static EdgeEchoes at1000(String gates) {
        EdgeEchoes x = Due.lineOf("d50 2;p50 1;e2 50;" + gates);
        x.drive(true);
        return x;
    }

    private static void to999(EdgeEchoes x) {
        x.ohms(51);
        x.end(2, 51);
    }

    private static void sees(EdgeEchoes x, String when, int volts, int... due) {
        x.tick(1);
        Due.is(when + ": volts", x.cell(0, 0), 1000000 + volts);
        for (int g = 0; g < due.length; g++) {
            Due.is(when + ": gate " + g, x.gate(g, 3), due[g]);
        }
    }

    /** "1, if v is H or more"; turned: "1, if v is below H". */
    private static void gatesAtTheirVolts() {
        EdgeEchoes x = at1000("g0 0 1;g3 0 1;g1 0 1;g0 0 2;g3 0 2;");
        sees(x, "at H", 1000, 1, 0, 1, 0, 1);
        to999(x);
        sees(x, "one below H", 999, 0, 1, 1, 0, 1);
        EdgeEchoes y = Due.lineOf("d51 2;p50 1;e2 51;g0 0 1;g3 0 1;g1 0 1;");
        y.drive(true);
        y.tick(1);
        sees(y, "never at H", 999, 0, 1, 0);
    }

    /** "0, if it is below half of H, else what it saw" */
    private static void gateThatHoldsAtHalf() {
        EdgeEchoes x = Due.lineOf("d0 2;p50 1;e2 50;g1 0 2;");
        x.drive(true);
        sees(x, "at H", 2000, 1);
        x.ohms(50);
        sees(x, "at half of H", 1000, 1);
        to999(x);
        sees(x, "below half of H", 999, 0);
        sees(x, "it stays", 999, 0);
        EdgeEchoes y = at1000("g1 0 2;");
        sees(y, "at half of H from below", 1000, 0);
        // Half of an odd H is no whole number of volts: 1500 of 3.
        EdgeEchoes odd = Due.lineOf("d0 3;p50 1;e2 50;g1 0 3;");
        odd.drive(true);
        sees(odd, "at 3", 3000, 1);
        odd.ohms(50);
        sees(odd, "at half of 3", 1500, 1);
        odd.ohms(51);
        sees(odd, "below half of 3", 1485, 0);
    }

    /** "otherwise than it saw, behind three TICKS on end: then that" */
    private static void slowGateBehindThree() {
        EdgeEchoes x = at1000("g2 0 1;");
        sees(x, "H, one tick", 1000, 0);
        sees(x, "H, two ticks", 1000, 0);
        sees(x, "H, three ticks", 1000, 1);
        Due.is("one edge", x.gate(0, 4), 1);
        to999(x);
        sees(x, "below, one tick", 999, 1);
        sees(x, "below, two ticks", 999, 1);
        sees(x, "below, three ticks", 999, 0);
        Due.is("two edges", x.gate(0, 4), 2);
        // Two, then one otherwise, then two: never three on end.
        EdgeEchoes y = Due.lineOf("d0 5;p9 1;e2 9;g2 0 5;");
        boolean[] high = {true, true, false, true, true, false, true, true, true};
        for (int k = 0; k < high.length; k++) {
            y.drive(high[k]);
            y.tick(1);
            Due.is("slow behind " + (k + 1), y.gate(0, 3), k == 8 ? 1 : 0);
        }
        // Deeds between the ticks do not part them.
        EdgeEchoes z = Due.lineOf("d0 5;p9 1;e2 9;g2 0 5;");
        z.drive(true);
        z.tick(1);
        z.drive(false);
        z.drive(true);
        z.tick(1);
        z.ohms(0);
        z.tick(1);
        Due.is("three ticks with deeds between", z.gate(0, 3), 1);
    }

    /** turned: "(0 at first all the same)" */
    private static void turnedGateAtFirst() {
        EdgeEchoes x = Due.lineOf("d0 5;p9 1;g3 0 1;g3 71 1;");
        Due.is("at first", x.told(11), 0);
        Due.is("no edges at first", x.gate(0, 4), 0);
        Due.is("sees behind 0", x.sees(0, 0, 0), 0);
        Due.is("sees behind 1", x.sees(0, 1, 0), 1);
        x.tick(1);
        Due.is("behind a tick", x.told(11), 3);
        Due.is("an edge", x.gate(0, 4), 1);
        x.quiet();
        Due.is("quiet: 0 again", x.told(11), 0);
        x.tick(1);
        Due.is("quiet: an edge again", x.gate(0, 4), 1);
    }

    /** told(11): "(a SET)", with all six gates in it. */
    private static void seesAsSet() {
        for (int g = 0; g < 6; g++) {
            StringBuilder text = new StringBuilder("d0 5;p9 1;");
            for (int k = 0; k < 6; k++) {
                text.append(k == g ? "g3 0 1;" : "g0 0 1;");
            }
            EdgeEchoes x = Due.lineOf(text.toString());
            x.tick(1);
            Due.is("only gate " + g, x.told(11), 1 << g);
            x.drive(true);
            x.tick(1);
            Due.is("all but gate " + g, x.told(11), 63 - (1 << g));
        }
    }

    /** FIRST: "behind how many (0 .. 200) it first sees a 1; NONE" */
    private static void firstOfGate() {
        EdgeEchoes x = Due.lineOf("d90 20;p10 9;p10 9;p10 9;p10 9;p10 9;p10 9;p10 9;p10 9;g0 55 5;g0 56 5;g3 0 1;");
        x.drive(true);
        Due.is("behind 200", x.gate(0, 5), 200);
        Due.is("behind 201", x.gate(1, 5), NONE);
        x.tick(1);
        Due.is("one tick later: behind 199", x.gate(0, 5), 199);
        Due.is("one tick later: behind 200", x.gate(1, 5), 200);
        EdgeEchoes y = Due.lineOf("d0 9;p10 1;e2 10;g0 0 9;g2 0 9;");
        y.drive(true);
        Due.is("behind 1", y.gate(0, 5), 1);
        Due.is("slow: behind 3", y.gate(1, 5), 3);
        y.tick(1);
        Due.is("behind 0", y.gate(0, 5), 0);
        y.drive(false);
        Due.is("it still sees it", y.gate(0, 5), 0);
        Due.is("slow: not any more", y.gate(1, 5), NONE);
    }

    /** EDGES "(9999 at most)", and what is DECEIVED by that: two edges in each four ticks, within 512 calls. */
    private static void edgesUpTo9999() {
        EdgeEchoes x = Due.lineOf("d0 6;p9 1;g0 0 7;");
        x.drive(true);
        for (int k = 0; k < 399; k++) {
            x.tick(50);
        }
        Due.is("EDGES behind 19950", x.gate(0, 4), 9975);
        Due.is("DECEIVED behind 47", x.sees(0, 47, 1), 23);
        Due.is("DECEIVED behind 48", x.sees(0, 48, 1), 24);
        Due.is("DECEIVED behind 49", x.sees(0, 49, 1), 24);
        Due.is("DECEIVED behind 200", x.sees(0, 200, 1), 24);
        Due.is("it goes on to see", x.sees(0, 52, 0), 1);
        Due.is("to 9998", x.tick(47), 19997);
        Due.is("EDGES 9998", x.gate(0, 4), 9998);
        x.tick(1);
        Due.is("EDGES 9999", x.gate(0, 4), 9999);
        Due.is("it sees 1", x.gate(0, 3), 1);
        x.tick(1);
        Due.is("EDGES stay", x.gate(0, 4), 9999);
        Due.is("what it sees does not", x.gate(0, 3), 0);
        Due.is("an entry of 9999", x.write(0, 9999), 1);
        Due.is("it is right", x.judge(), NONE);
        Due.is("no more DECEIVED", x.sees(0, 200, 1), 0);
        Due.is("quiet()", x.quiet(), 9999);
        Due.is("it is wrong now", x.judge(), 0);
        Due.is("EDGES 0", x.gate(0, 4), 0);
    }

    private static void waves(EdgeEchoes x, String when, int i, int on, int back) {
        Due.is(when + ": ON of " + i, x.cell(i, 1), 1000000 + on);
        Due.is(when + ": BACK of " + i, x.cell(i, 2), 1000000 + back);
    }

    /** "a wave beyond 400000 either way is 400000 that way" */
    private static void wavesUpTo400000() {
        // At the driver: a short throws all back turned round, and each round adds 99000.
        EdgeEchoes x = Due.lineOf("d0 99;p1 1;p99 1;e2 99;");
        x.drive(true);
        x.brief(1);
        x.tick(8);
        waves(x, "four rounds", 0, 396000, -396000);
        x.tick(1);
        waves(x, "five rounds would be 495000", 0, 400000, -396000);
        x.tick(1);
        waves(x, "and back", 0, 400000, -400000);
        x.tick(1);
        waves(x, "no more", 0, 400000, -400000);
        Due.is("volts of both", x.cell(0, 0), 1000000);
        // Where a place is whole: 198 of a hundred go on.
        x.undo(3);
        x.mend(1);
        x.tick(1);
        waves(x, "ON would be 784080", 1, 400000, 0);
        waves(x, "98 of a hundred run back", 0, 400000, 388080);
        x.undo(2);
        // The other way: low and cut, the wave comes back, and off the driver turned round.
        x.drive(false);
        x.cut(1);
        x.tick(2);
        waves(x, "turned round", 0, -396000, 396000);
        x.mend(1);
        x.tick(1);
        waves(x, "ON would be -784080", 1, -400000, 0);
        waves(x, "BACK of that", 0, -396000, -388080);
        wavesBackUpTo400000();
        // Bounds are not mistaken for more: both waves may be at theirs.
        EdgeEchoes both = Due.lineOf("d0 99;p1 1;e1 1;");
        both.drive(true);
        both.tick(11);
        both.end(0, 1);
        both.tick(1);
        waves(both, "both at the bound", 0, 400000, 400000);
        Due.is("volts beyond it", both.cell(0, 0), 1800000);
        Due.is("volts beyond it, tried", both.volts(0, 0, 0), 1800000);
    }

    private static void wavesBackUpTo400000() {
        // Rounds of four ticks through two cells of 1 ohm; then the first becomes one of 99.
        EdgeEchoes x = Due.lineOf("d0 99;p1 1;p1 1;e1 1;");
        x.drive(true);
        x.tick(16);
        waves(x, "rounds, first", 0, 396000, -396000);
        waves(x, "rounds, last", 1, 396000, -396000);
        x.piece(0, 99);
        x.tick(1);
        Due.is("BACK would be -1172160", x.cell(0, 2), 600000);
        Due.is("ON would be -380160", x.cell(1, 1), 1000000 + (2 * 396000 - 98 * 396000) / 100);
        x.undo(2);
        // The other way: open and low, till what comes back is above 0 and what goes on below.
        x.drive(false);
        x.end(0, 1);
        x.tick(3);
        waves(x, "open and low, first", 0, -396000, 396000);
        waves(x, "open and low, last", 1, 396000, 396000);
        x.piece(0, 99);
        x.tick(1);
        Due.is("BACK would be 1172160", x.cell(0, 2), 1400000);
        Due.is("ON would be 380160", x.cell(1, 1), 1000000 + (-2 * 396000 + 98 * 396000) / 100);
    }

    /** "All cut": towards 0, for waves below 0, too. */
    private static void wavesCut() {
        // 1000 by a third more: 333.3; and of that, turned round by a short, -333.
        EdgeEchoes x = Due.lineOf("d2 1;p1 1;e1 1;");
        x.drive(true);
        x.tick(1);
        waves(x, "a third", 0, 333, 0);
        x.tick(1);
        waves(x, "turned round", 0, 333, -333);
        x.tick(1);
        // (1 times 1000, and 1 times -333) by 3 is 222.3.
        waves(x, "at the driver", 0, 222, -333);
        EdgeEchoes y = Due.lineOf("d0 1;p2 1;e2 1;");
        y.drive(true);
        y.tick(2);
        // 1000 times (1 less 2) by 3 is -333.3: cut to -333.
        waves(y, "below 0 at the end", 0, 1000, -333);
        EdgeEchoes z = Due.lineOf("d0 1;p2 1;p1 1;e2 1;");
        z.drive(true);
        z.tick(2);
        waves(z, "below 0 at a place", 0, 1000, -333);
        waves(z, "on at a place", 1, 666, 0);
        EdgeEchoes low = Due.lineOf("d1 1;p2 1;p1 1;e1 1;");
        low.drive(true);
        low.tick(1);
        low.drive(false);
        low.tick(1);
        // 666 at first; -666 times 1 by 3 is -222, 2 times 666 by 3 is 444.
        waves(low, "low", 0, 0, -222);
        waves(low, "low, behind", 1, 444, 0);
        low.tick(1);
        // (1 less 2) times -222 by 3 is 74; BACK: 0 and 2 times 2 times 0 is 0; the short: -444.
        waves(low, "low, a tick on", 0, 74, 0);
        waves(low, "low, a tick on, behind", 1, 0, -444);
        low.tick(1);
        // BACK of 0: (0 times -1, and 4 times -444) by 3 with a of 74: (-74 - 1776) by 3 is -616.6.
        waves(low, "cut below 0", 0, 0, -616);
    }

    /** "S is V VOLTS, if THE DRIVER is HIGH (it is LOW at first), else 0." */
    private static void lowIsNothing() {
        EdgeEchoes x = Due.lineOf("d0 99;p99 2;");
        x.tick(50);
        Due.is("LOW at first", x.told(7), 0);
        waves(x, "low at first", 0, 0, 0);
        waves(x, "low at first", 1, 0, 0);
        x.drive(true);
        x.tick(1);
        waves(x, "high", 0, 99000, 0);
        x.drive(false);
        x.tick(1);
        waves(x, "low again", 0, 0, 0);
        EdgeEchoes one = Due.lineOf("d0 1;p1 1;e2 1;");
        one.drive(true);
        one.tick(1);
        waves(one, "one volt", 0, 1000, 0);
    }

    /** OVER: "behind 0 to 200 TICKS .. above S at most (0 at least)" */
    private static void overAtLeastNothing() {
        EdgeEchoes x = Due.lineOf("d10 6;p10 4;");
        Due.is("never above S", x.told(12), 0);
        x.ohms(9);
        // 6000 by 10 of 19 is 3157, twice 6314 at the end.
        Due.is("above S", x.told(12), 314);
        x.cut(3);
        Due.is("nothing comes to the last cell", x.told(12), 0);
        EdgeEchoes late = Due.lineOf("d7 9;p98 5;p1 8;e0 27;");
        Due.is("at most behind 200", late.told(12), 1764);
        EdgeEchoes later = Due.lineOf("d24 3;p2 4;p24 1;p10 6;e0 24;");
        Due.is("behind 201 it would be 71", later.told(12), 66);
        EdgeEchoes one = Due.lineOf("d0 99;p1 1;e0 1;");
        Due.is("one cell", one.told(12), 99000);
        one.tick(50);
        one.drive(true);
        Due.is("from a quiet line", one.told(12), 99000);
    }

    /** DRIVER: "the R (0 .. 99) by which OVER is least; of like ones the least" */
    private static void driverFrom0To99() {
        EdgeEchoes low = Due.lineOf("d50 9;p50 3;e1 1;");
        low.cut(2);
        Due.is("all alike: 0", low.told(13), 0);
        EdgeEchoes high = Due.lineOf("d50 9;p99 3;");
        Due.is("the greatest", high.told(13), 99);
        EdgeEchoes like = Due.lineOf("d33 1;p85 2;p98 6;e0 71;");
        Due.is("98 and 99 are alike", like.told(13), 98);
        EdgeEchoes own = Due.lineOf("d50 9;p1 3;");
        Due.is("as the wire", own.told(13), 1);
        own.ohms(99);
        Due.is("whatever it is now", own.told(13), 1);
        Due.is("that stays", own.told(5), 99);
    }

    /** COMES BACK: "behind how many TICKS (1 .. 200) BACK of CELL 0 is first not 0; NONE" */
    private static void comesBack() {
        EdgeEchoes one = Due.lineOf("d1 1;p1 1;");
        Due.is("one cell", one.told(14), 2);
        EdgeEchoes far = Due.lineOf("d1 1;" + EIGHT_NINES);
        Due.is("72 cells", far.told(14), 144);
        far.end(2, 1);
        Due.is("like ohms at the end", far.told(14), NONE);
        far.brief(1);
        Due.is("a short at 1", far.told(14), 2);
        far.mend(1);
        far.cut(71);
        Due.is("a cut at 71", far.told(14), 142);
        far.mend(71);
        far.piece(7, 2);
        Due.is("other ohms at 63", far.told(14), 126);
        // The least that is not 0: 2 thousandths, or 2 below 0.
        EdgeEchoes least = Due.lineOf("d99 1;p98 1;p99 1;e2 99;");
        Due.is("two thousandths", least.told(14), 2);
        EdgeEchoes below = Due.lineOf("d99 1;p99 1;p98 1;e2 98;");
        Due.is("two below 0", below.told(14), 2);
        below.drive(true);
        below.tick(2);
        Due.is("it is that", below.cell(0, 2), 999998);
    }
}
