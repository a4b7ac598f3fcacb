/** Promises 5 to 9: told, wire, cell, place, gate. */
public final class StandingTest {
    private static final int UNKNOWN = EdgeEchoes.UNKNOWN, OUTSIDE = EdgeEchoes.OUTSIDE, NONE = EdgeEchoes.NONE;

    public static void main(String[] args) {
        told();
        toldOfTrials();
        wire();
        cell();
        place();
        gate();
        gateKinds();
        gatesWithoutCell();
        Due.end();
    }

    private static void told() {
        EdgeEchoes x = Due.lineOf("d10 6;p20 2;p40 1;e2 20;g0 0 4;g3 2 6;g0 2 1;");
        Due.feed(x, "d1");
        int[] due = {1, 2, 3, 3, 2, 10, 6, 0, 2, 20, 0, 0};
        for (int what = 0; what < due.length; what++) {
            Due.is("told(" + what + ")", x.told(what), due[what]);
        }
        x.drive(true);
        x.tick(1);
        Due.is("told(7) HIGH", x.told(7), 1);
        Due.is("told(10) ticks", x.told(10), 1);
        Due.is("told(11) sees", x.told(11), 3);
        x.tick(2);
        Due.is("told(11) sees later", x.told(11), 7);
        x.see(1, 1, true);
        x.see(1, 1, true);
        x.write(0, 0);
        Due.is("told(15)", x.told(15), 2);
        Due.is("told(16)", x.told(16), 1);
        Due.is("told(17)", x.told(17), 3);
        x.end(0, 5);
        Due.is("told(8) open", x.told(8), 0);
        Due.is("told(9) open", x.told(9), 0);
        x.end(1, 5);
        Due.is("told(8) short", x.told(8), 1);
        Due.is("told(9) short", x.told(9), 0);
        Due.is("told(18)", x.told(18), OUTSIDE);
        Due.is("told(-1)", x.told(-1), OUTSIDE);
        Due.is("told(min)", x.told(Integer.MIN_VALUE), OUTSIDE);
        EdgeEchoes y = Due.lineOf("d1 1;e1 9;");
        Due.is("told(9) of a short end in the text", y.told(9), 0);
        Due.is("told(8) of a short end in the text", y.told(8), 1);
    }

    private static void toldOfTrials() {
        // Of 0 ohms into an open line: all comes twice, S too much.
        EdgeEchoes x = Due.lineOf("d0 7;p30 4;");
        Due.is("OVER of 0 ohms", x.told(12), 7000);
        Due.is("DRIVER as the wire", x.told(13), 30);
        Due.is("COMES BACK over 4 cells", x.told(14), 8);
        x.ohms(30);
        Due.is("OVER of like ohms", x.told(12), 0);
        x.drive(true);
        x.tick(9);
        String was = Due.all(x);
        Due.is("OVER from quiet", x.told(12), 0);
        Due.is("DRIVER from quiet", x.told(13), 30);
        Due.is("COMES BACK from quiet", x.told(14), 8);
        Due.holds("trials change nothing", was.equals(Due.all(x)));
        x.cut(2);
        Due.is("COMES BACK from a cut", x.told(14), 4);
        Due.is("OVER behind a cut", x.told(12), 0);
        Due.is("DRIVER behind a cut: the least", x.told(13), 0);
        x.mend(2);
        x.end(2, 30);
        Due.is("COMES BACK from like ohms", x.told(14), NONE);
        // 60 by 90 of 3000 is 2000 at first, thrown back whole: 4000, 1000 above S.
        EdgeEchoes y = Due.lineOf("d30 3;p60 1;");
        Due.is("OVER of 30 into 60", y.told(12), 1000);
        Due.is("DRIVER for 60", y.told(13), 60);
        EdgeEchoes far = Due.lineOf("d1 1;p2 9;p2 9;p2 9;p2 9;p2 9;p2 9;p2 9;p2 9;");
        Due.is("COMES BACK over 72 cells", far.told(14), 144);
        toldAtTheirEdges();
        EdgeEchoes none = Due.lineOf("d5 5;");
        Due.is("OVER without cells", none.told(12), 0);
        Due.is("DRIVER without cells", none.told(13), 0);
        Due.is("COMES BACK without cells", none.told(14), NONE);
    }

    private static void toldAtTheirEdges() {
        // The highest is the last that OVER looks at, behind 200 ticks.
        EdgeEchoes late = Due.lineOf("d7 9;p98 5;p1 8;e0 27;");
        EdgeEchoes ticked = Due.lineOf("d7 9;p98 5;p1 8;e0 27;");
        ticked.drive(true);
        int over = 0;
        for (int t = 1; t <= 200; t++) {
            ticked.tick(1);
            over = Math.max(over, ticked.cell(12, 0) - 1009000);
            Due.holds("not ahead of 200", t == 200 || over < 1764);
        }
        Due.is("highest by ticks", over, 1764);
        Due.is("OVER behind 200", late.told(12), 1764);
        // Higher still behind 201: that is not looked at.
        EdgeEchoes later = Due.lineOf("d24 3;p2 4;p24 1;p10 6;e0 24;");
        Due.is("OVER not behind 201", later.told(12), 66);
        later.drive(true);
        later.tick(1);
        Due.is("volts behind 201", later.volts(10, 200, 0), 1003071);
        // By 14 ohms it is over by 1, by 15 not at all.
        EdgeEchoes one = Due.lineOf("d14 1;p31 7;e2 83;");
        Due.is("OVER of 14", one.told(12), 1);
        Due.is("DRIVER without any", one.told(13), 15);
        // Of like ones, the least; and the last ohms, too.
        EdgeEchoes like = Due.lineOf("d33 1;p85 2;p98 6;e0 71;");
        Due.is("DRIVER of like ones", like.told(13), 98);
        like.ohms(98);
        Due.is("OVER of 98", like.told(12), 2);
        like.ohms(99);
        Due.is("OVER of 99", like.told(12), 2);
        EdgeEchoes most = Due.lineOf("d33 1;p99 1;");
        Due.is("DRIVER of 99", most.told(13), 99);
    }

    private static void wire() {
        EdgeEchoes x = Due.lineOf("d1 1;p10 3;p20 9;p99 1;");
        int[] due = {10, 3, 0, 20, 9, 3, 99, 1, 12};
        for (int k = 0; k < 9; k++) {
            Due.is("wire(" + k / 3 + ", " + k % 3 + ")", x.wire(k / 3, k % 3), due[k]);
        }
        Due.is("wire(3, 0)", x.wire(3, 0), UNKNOWN);
        Due.is("wire(-1, 0)", x.wire(-1, 0), UNKNOWN);
        Due.is("wire(3, 3)", x.wire(3, 3), UNKNOWN);
        Due.is("wire(0, 3)", x.wire(0, 3), OUTSIDE);
        Due.is("wire(0, -1)", x.wire(0, -1), OUTSIDE);
        Due.is("wire(max, 0)", x.wire(Integer.MAX_VALUE, 0), UNKNOWN);
    }

    private static void cell() {
        EdgeEchoes x = Due.lineOf("d10 6;p20 2;p40 1;e2 20;");
        x.drive(true);
        // Worked out by hand from section 2: ON, BACK of cells 0, 1, 2 behind each tick.
        int[][] due = {
            {4000, 0, 0, 0, 0, 0},
            {4000, 0, 4000, 0, 0, 0},
            {4000, 0, 4000, 1333, 5333, 0},
            {4000, 1333, 4000, 1333, 5333, -1777},
            {3555, 1333, 4000, 148, 5925, -1777},
        };
        for (int t = 0; t < due.length; t++) {
            x.tick(1);
            for (int i = 0; i < 3; i++) {
                int on = due[t][2 * i];
                int back = due[t][2 * i + 1];
                Due.is("tick " + (t + 1) + " cell(" + i + ", 0)", x.cell(i, 0), 1000000 + on + back);
                Due.is("tick " + (t + 1) + " cell(" + i + ", 1)", x.cell(i, 1), 1000000 + on);
                Due.is("tick " + (t + 1) + " cell(" + i + ", 2)", x.cell(i, 2), 1000000 + back);
            }
        }
        Due.is("cell(3, 0)", x.cell(3, 0), 1000000);
        Due.is("cell(3, 1)", x.cell(3, 1), 1000000);
        Due.is("cell(71, 2)", x.cell(71, 2), 1000000);
        Due.is("cell(72, 0)", x.cell(72, 0), OUTSIDE);
        Due.is("cell(-1, 0)", x.cell(-1, 0), OUTSIDE);
        Due.is("cell(0, 3)", x.cell(0, 3), OUTSIDE);
        Due.is("cell(0, -1)", x.cell(0, -1), OUTSIDE);
    }

    private static void place() {
        EdgeEchoes x = Due.lineOf("d1 1;p10 4;");
        Due.is("place(1)", x.place(1), 0);
        x.cut(1);
        x.brief(2);
        Due.is("place(1) CUT", x.place(1), 1);
        Due.is("place(2) SHORT", x.place(2), 2);
        Due.is("place(3) WHOLE", x.place(3), 0);
        Due.is("place(4)", x.place(4), NONE);
        Due.is("place(71)", x.place(71), NONE);
        Due.is("place(0)", x.place(0), OUTSIDE);
        Due.is("place(72)", x.place(72), OUTSIDE);
        Due.is("place(-5)", x.place(-5), OUTSIDE);
        EdgeEchoes one = Due.lineOf("d1 1;p10 1;");
        Due.is("place(1) of one cell", one.place(1), NONE);
    }

    private static void gate() {
        EdgeEchoes x = Due.lineOf("d0 5;p10 2;g0 1 5;g3 71 99;");
        Due.is("gate(0, 0)", x.gate(0, 0), 0);
        Due.is("gate(0, 1)", x.gate(0, 1), 1);
        Due.is("gate(0, 2)", x.gate(0, 2), 5);
        Due.is("gate(1, 0)", x.gate(1, 0), 3);
        Due.is("gate(1, 1)", x.gate(1, 1), 71);
        Due.is("gate(1, 2)", x.gate(1, 2), 99);
        Due.is("gate(0, 5) LOW", x.gate(0, 5), NONE);
        x.drive(true);
        Due.is("gate(0, 5) HIGH", x.gate(0, 5), 2);
        Due.is("gate(0, 3)", x.gate(0, 3), 0);
        x.tick(2);
        Due.is("gate(0, 3) behind 2", x.gate(0, 3), 1);
        Due.is("gate(0, 4) behind 2", x.gate(0, 4), 1);
        Due.is("gate(0, 5) behind 2", x.gate(0, 5), 0);
        Due.is("gate(2, 0)", x.gate(2, 0), UNKNOWN);
        Due.is("gate(-1, 0)", x.gate(-1, 0), UNKNOWN);
        Due.is("gate(2, 9)", x.gate(2, 9), UNKNOWN);
        Due.is("gate(0, 6)", x.gate(0, 6), OUTSIDE);
        Due.is("gate(0, -1)", x.gate(0, -1), OUTSIDE);
        // 2 volts, 4 with the echo, 5.6 with the second edge, behind 2 times 72 and 56 ticks at cell 55.
        EdgeEchoes last = Due.lineOf("d90 20;p10 9;p10 9;p10 9;p10 9;p10 9;p10 9;p10 9;p10 9;g0 55 5;g0 56 5;");
        last.drive(true);
        Due.is("gate(0, 5) behind 200", last.gate(0, 5), 200);
        Due.is("gate(1, 5) behind 201", last.gate(1, 5), NONE);
        EdgeEchoes late = Due.lineOf("d0 1;p1 9;p1 9;p1 9;p1 9;p1 9;p1 9;p1 9;p1 9;g0 71 2;g0 0 1;");
        late.drive(true);
        Due.is("gate(0, 5) behind the end", late.gate(0, 5), 73);
        Due.is("gate(1, 5) at the driver", late.gate(1, 5), 1);
    }

    /** One cell of the driver's own ohms, an end of like ohms: VOLTS are half of S behind each tick. */
    private static void gateKinds() {
        EdgeEchoes x = Due.lineOf("d0 8;p10 1;e2 10;g0 0 8;g1 0 8;g2 0 8;g3 0 8;g1 0 9;g0 0 9;");
        x.drive(true);
        sees(x, "8 volts", 1, 1, 0, 0, 0, 0);
        sees(x, "8 volts, 2", 1, 1, 0, 0, 0, 0);
        sees(x, "8 volts, 3", 1, 1, 1, 0, 0, 0);
        x.drive(false);
        sees(x, "0 volts", 0, 0, 1, 1, 0, 0);
        sees(x, "0 volts, 2", 0, 0, 1, 1, 0, 0);
        x.drive(true);
        sees(x, "8 volts between", 1, 1, 1, 0, 0, 0);
        x.drive(false);
        sees(x, "0 volts again", 0, 0, 1, 1, 0, 0);
        sees(x, "0 volts again, 2", 0, 0, 1, 1, 0, 0);
        sees(x, "0 volts again, 3", 0, 0, 0, 1, 0, 0);
        int[] edges = {4, 4, 2, 3, 0, 0};
        for (int g = 0; g < 6; g++) {
            Due.is("edges of gate " + g, x.gate(g, 4), edges[g]);
        }
        // Into like ohms: 8 volts by half are 4, just half of 8, not below half; by a third less, below.
        EdgeEchoes half = Due.lineOf("d0 8;p10 1;e2 10;g1 0 8;g1 0 7;");
        half.drive(true);
        half.tick(1);
        half.ohms(10);
        half.tick(1);
        Due.is("4000 holds", half.cell(0, 0), 1004000);
        Due.is("gate of 8 holds at its half", half.gate(0, 3), 1);
        half.ohms(11);
        half.tick(1);
        Due.is("3809 is below", half.cell(0, 0), 1003809);
        Due.is("gate of 8 lets go", half.gate(0, 3), 0);
        Due.is("gate of 7 holds above 3500", half.gate(1, 3), 1);
        half.ohms(13);
        half.tick(1);
        Due.is("3478 is below", half.cell(0, 0), 1003478);
        Due.is("gate of 7 lets go below 3500", half.gate(1, 3), 0);
    }

    private static void sees(EdgeEchoes x, String when, int... due) {
        x.tick(1);
        for (int g = 0; g < due.length; g++) {
            Due.is(when + ": gate " + g, x.gate(g, 3), due[g]);
        }
    }

    private static void gatesWithoutCell() {
        EdgeEchoes x = Due.lineOf("d0 9;p10 2;g0 2 1;g3 2 1;g2 71 1;g1 5 1;");
        x.drive(true);
        x.tick(10);
        Due.is("sees 0 volts", x.told(11), 2);
        Due.is("turned: one edge", x.gate(1, 4), 1);
        EdgeEchoes none = Due.lineOf("d0 9;g3 0 1;g0 0 1;");
        Due.is("turned at first", none.gate(0, 3), 0);
        Due.is("turned first", none.gate(0, 5), 1);
        none.tick(1);
        Due.is("turned without cells", none.told(11), 1);
    }
}
