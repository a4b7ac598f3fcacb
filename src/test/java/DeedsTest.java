/** Promises 10 to 20: tick, drive, cut, brief, mend, piece, end, ohms, quiet, drift, undo. */
public final class DeedsTest {
    private static final int UNKNOWN = EdgeEchoes.UNKNOWN, OUTSIDE = EdgeEchoes.OUTSIDE, NOT = EdgeEchoes.NOT;
    private static final String LINE = "d10 6;p20 2;p40 2;e2 20;g0 0 4;g3 3 2;";

    public static void main(String[] args) {
        tick();
        waveBounds();
        drive();
        cutBriefMend();
        wavesAtPlaces();
        piece();
        end();
        ohms();
        quiet();
        drift();
        undo();
        Due.end();
    }

    private static void refused(EdgeEchoes x, String call, int got, int want, String was) {
        Due.is(call, got, want);
        Due.holds(call + " changes nothing", was.equals(Due.all(x)));
    }

    private static void tick() {
        EdgeEchoes x = Due.lineOf(LINE);
        String was = Due.all(x);
        refused(x, "tick(0)", x.tick(0), OUTSIDE, was);
        refused(x, "tick(51)", x.tick(51), OUTSIDE, was);
        refused(x, "tick(-1)", x.tick(-1), OUTSIDE, was);
        Due.is("tick(50)", x.tick(50), 50);
        Due.is("tick(1)", x.tick(1), 51);
        Due.is("told(10)", x.told(10), 51);
        Due.is("told(17)", x.told(17), 2);
        EdgeEchoes y = Due.lineOf("d1 1;");
        Due.is("tick without cells", y.tick(3), 3);
        EdgeEchoes none = new EdgeEchoes();
        Due.is("tick(0) without a line", none.tick(0), OUTSIDE);
        Due.is("tick(1) without a line", none.tick(1), NOT);
    }

    /** A driver and an end that both throw all back: each round adds S, till the bound. */
    private static void waveBounds() {
        EdgeEchoes x = Due.lineOf("d0 99;p1 1;e1 1;");
        x.drive(true);
        x.tick(9);
        Due.is("five rounds", x.cell(0, 1), 1000000 + 5 * 99000 - 95000);
        Due.is("back of four rounds", x.cell(0, 2), 1000000 - 4 * 99000);
        x.tick(1);
        Due.is("back at the bound", x.cell(0, 2), 600000);
        EdgeEchoes low = Due.lineOf("d0 99;p1 1;p99 1;e0 1;");
        low.drive(true);
        for (int k = 0; k < 20; k++) {
            low.tick(1);
            for (int i = 0; i < 2; i++) {
                Due.holds("on within", Math.abs(low.cell(i, 1) - 1000000) <= 400000);
                Due.holds("back within", Math.abs(low.cell(i, 2) - 1000000) <= 400000);
            }
        }
    }

    private static void drive() {
        EdgeEchoes x = Due.lineOf(LINE);
        Due.is("drive(true)", x.drive(true), 0);
        Due.is("HIGH, no tick yet", x.cell(0, 0), 1000000);
        Due.is("drive(true) again", x.drive(true), 1);
        Due.is("both are deeds", x.told(17), 2);
        x.tick(1);
        Due.is("HIGH", x.cell(0, 1), 1004000);
        Due.is("drive(false)", x.drive(false), 1);
        Due.is("told(7)", x.told(7), 0);
        x.tick(1);
        Due.is("LOW", x.cell(0, 1), 1000000);
        Due.is("the edge ran on", x.cell(1, 1), 1004000);
        Due.is("drive(false) again", x.drive(false), 0);
    }

    private static void cutBriefMend() {
        for (int i : new int[] {0, -1, 72, Integer.MAX_VALUE, Integer.MIN_VALUE}) {
            noPlace(i, OUTSIDE);
        }
        for (int i : new int[] {4, 71}) {
            noPlace(i, NOT);
        }
        EdgeEchoes x = Due.lineOf(LINE);
        String was = Due.all(x);
        refused(x, "mend(1) whole", x.mend(1), NOT, was);
        Due.is("cut(1)", x.cut(1), 0);
        Due.is("cut(1) again", x.cut(1), NOT);
        Due.is("brief(1) of a cut", x.brief(1), 1);
        Due.is("place(1) SHORT", x.place(1), 2);
        Due.is("brief(1) again", x.brief(1), NOT);
        Due.is("cut(1) of a short", x.cut(1), 2);
        Due.is("mend(1) of a cut", x.mend(1), 1);
        Due.is("brief(3)", x.brief(3), 0);
        Due.is("mend(3) of a short", x.mend(3), 2);
        Due.is("place(3) WHOLE", x.place(3), 0);
        Due.is("deeds", x.told(17), 6);
    }

    private static void noPlace(int i, int want) {
        EdgeEchoes x = Due.lineOf(LINE);
        String was = Due.all(x);
        refused(x, "cut(" + i + ")", x.cut(i), want, was);
        refused(x, "brief(" + i + ")", x.brief(i), want, was);
        refused(x, "mend(" + i + ")", x.mend(i), want, was);
    }

    private static void wavesAtPlaces() {
        // A cut throws each side's wave back as it is, a short turned round.
        EdgeEchoes x = Due.lineOf("d10 6;p20 2;p40 2;");
        x.drive(true);
        x.tick(4);
        Due.is("on 1", x.cell(1, 1), 1004000);
        Due.is("on 2", x.cell(2, 1), 1005333);
        x.tick(2);
        Due.is("back 3", x.cell(3, 2), 1005333);
        Due.is("back 2", x.cell(2, 2), 1005333);
        x.cut(2);
        x.tick(1);
        Due.is("cut: back 1", x.cell(1, 2), 1003555);
        Due.is("cut: on 2", x.cell(2, 1), 1005333);
        x.undo(2);
        x.brief(2);
        x.tick(1);
        Due.is("short: back 1", x.cell(1, 2), 1000000 - 3555);
        Due.is("short: on 2", x.cell(2, 1), 1000000 - 5333);
        x.undo(2);
        x.cut(1);
        x.tick(1);
        Due.is("cut between like ohms", x.cell(0, 2), 1003555);
        Due.is("cut between like ohms: on", x.cell(1, 1), 1001333);
    }

    private static void piece() {
        EdgeEchoes x = Due.lineOf("d10 6;p20 2;p40 2;p60 1;");
        String was = Due.all(x);
        refused(x, "piece(3, 1)", x.piece(3, 1), UNKNOWN, was);
        refused(x, "piece(-1, 0)", x.piece(-1, 0), UNKNOWN, was);
        refused(x, "piece(0, 0)", x.piece(0, 0), OUTSIDE, was);
        refused(x, "piece(0, 100)", x.piece(0, 100), OUTSIDE, was);
        Due.is("piece(1, 99)", x.piece(1, 99), 40);
        Due.is("piece(1, 20)", x.piece(1, 20), 99);
        Due.is("piece(0, 1)", x.piece(0, 1), 20);
        Due.is("piece(0, 20)", x.piece(0, 20), 1);
        Due.is("wire(1, 0)", x.wire(1, 0), 20);
        Due.is("wire(2, 0)", x.wire(2, 0), 60);
        Due.is("wire(1, 1)", x.wire(1, 1), 2);
        x.drive(true);
        x.tick(5);
        Due.is("like ohms send nothing back", x.cell(1, 2), 1000000);
        Due.is("20 to 60", x.cell(4, 1), 1006000);
        Due.is("20 to 60 back", x.cell(3, 2), 1002000);
    }

    private static void end() {
        EdgeEchoes x = Due.lineOf("d10 6;p20 1;");
        String was = Due.all(x);
        refused(x, "end(-1, 1)", x.end(-1, 1), OUTSIDE, was);
        refused(x, "end(3, 1)", x.end(3, 1), OUTSIDE, was);
        refused(x, "end(2, 0)", x.end(2, 0), OUTSIDE, was);
        refused(x, "end(2, 100)", x.end(2, 100), OUTSIDE, was);
        Due.is("end(2, 60)", x.end(2, 60), 0);
        Due.is("told(8)", x.told(8), 2);
        Due.is("told(9)", x.told(9), 60);
        x.drive(true);
        x.tick(2);
        Due.is("of 60 ohms", x.cell(0, 2), 1002000);
        Due.is("end(1, 7)", x.end(1, 7), 2);
        x.tick(1);
        Due.is("short", x.cell(0, 2), 996000);
        Due.is("end(0, 7)", x.end(0, 7), 1);
        Due.is("told(9) of open", x.told(9), 0);
        // R is no matter but for kind 2.
        Due.is("end(0, 0)", x.end(0, 0), 0);
        Due.is("end(1, 100)", x.end(1, 100), 0);
        Due.is("end(2, 1)", x.end(2, 1), 1);
        Due.is("end(2, 99)", x.end(2, 99), 2);
        EdgeEchoes full = Due.lineOf("d10 6;p20 9;p20 9;p20 9;p20 9;p20 9;p20 9;p20 9;p20 9;e2 60;");
        full.drive(true);
        full.tick(50);
        full.tick(23);
        Due.is("60 ohms behind 72 cells", full.cell(71, 2), 1002000);
        EdgeEchoes none = new EdgeEchoes();
        Due.is("end(3, 1) without a line", none.end(3, 1), OUTSIDE);
        Due.is("end(2, 1) without a line", none.end(2, 1), NOT);
    }

    private static void ohms() {
        EdgeEchoes x = Due.lineOf("d10 6;p20 1;e2 20;");
        String was = Due.all(x);
        refused(x, "ohms(-1)", x.ohms(-1), OUTSIDE, was);
        refused(x, "ohms(100)", x.ohms(100), OUTSIDE, was);
        Due.is("ohms(99)", x.ohms(99), 10);
        Due.is("ohms(0)", x.ohms(0), 99);
        Due.is("told(5)", x.told(5), 0);
        x.drive(true);
        x.tick(1);
        Due.is("0 ohms", x.cell(0, 1), 1006000);
        Due.is("ohms(20)", x.ohms(20), 0);
        x.tick(1);
        Due.is("20 ohms", x.cell(0, 1), 1003000);
        EdgeEchoes none = new EdgeEchoes();
        Due.is("ohms(100) without a line", none.ohms(100), OUTSIDE);
        Due.is("ohms(0) without a line", none.ohms(0), NOT);
    }

    private static void quiet() {
        EdgeEchoes x = Due.lineOf(LINE);
        x.drive(true);
        x.tick(4);
        x.brief(1);
        Due.is("edges of both", x.gate(0, 4) + x.gate(1, 4), 3);
        Due.is("quiet()", x.quiet(), 3);
        for (int i = 0; i < 4; i++) {
            Due.is("waves of cell " + i, x.cell(i, 1) + x.cell(i, 2), 2000000);
        }
        Due.is("sights", x.told(11), 0);
        Due.is("edges", x.gate(0, 4) + x.gate(1, 4), 0);
        Due.is("ticks stay", x.told(10), 4);
        Due.is("the driver stays", x.told(7), 1);
        Due.is("places stay", x.place(1), 2);
        Due.is("quiet() again", x.quiet(), 0);
        Due.is("undo it", x.undo(2), 4);
        Due.is("edges again", x.gate(0, 4) + x.gate(1, 4), 3);
        // A slow gate begins anew behind quiet().
        EdgeEchoes slow = Due.lineOf("d0 5;p9 1;g2 0 5;");
        slow.drive(true);
        slow.tick(2);
        slow.quiet();
        slow.tick(2);
        Due.is("slow: two ticks since", slow.gate(0, 3), 0);
        slow.tick(1);
        Due.is("slow: three ticks since", slow.gate(0, 3), 1);
    }

    private static int next(int seed) {
        return (int) ((seed * 1103515245L + 12345L) % 2147483648L);
    }

    private static void drift() {
        EdgeEchoes none = new EdgeEchoes();
        Due.is("drift(0) without a line", none.drift(0), OUTSIDE);
        Due.is("drift(1) without a line", none.drift(1), NOT);
        for (int first = 0; first < 200; first++) {
            EdgeEchoes x = Due.lineOf("d10 6;p20 2;p40 3;g0 4 3;");
            EdgeEchoes y = Due.lineOf("d10 6;p20 2;p40 3;g0 4 3;");
            int start = first * 10737418;
            x.seed(start);
            x.brief(2);
            y.brief(2);
            Due.is("drift(5)", x.drift(5), 5);
            int seed = start;
            for (int k = 0; k < 5; k++) {
                seed = next(seed);
                int draw = seed / 65536 % 8;
                if (draw < 2) {
                    y.drive(true);
                } else if (draw == 2) {
                    y.drive(false);
                } else if (draw == 3) {
                    seed = next(seed);
                    int i = seed / 65536 % 4 + 1;
                    if (y.mend(i) < 0) {
                        y.cut(i);
                    }
                }
                y.tick(1);
            }
            Due.is("told(17): one deed", x.told(17), 2);
            Due.holds("as by hand from " + start, standing(x).equals(standing(y)));
            Due.is("seed behind drift", x.seed(0), seed);
        }
        EdgeEchoes one = Due.lineOf("d10 6;p20 1;");
        int seed = 0;
        Due.is("drift(50) of one cell", one.drift(50), 50);
        for (int k = 0; k < 50; k++) {
            seed = next(seed);
        }
        Due.is("one cell: a single draw each", one.seed(0), seed);
        String was = Due.all(one);
        refused(one, "drift(0)", one.drift(0), OUTSIDE, was);
        refused(one, "drift(51)", one.drift(51), OUTSIDE, was);
        Due.is("refused: seed stays", one.seed(5), 0);
    }

    private static String standing(EdgeEchoes x) {
        StringBuilder s = new StringBuilder();
        for (int i = 0; i < 5; i++) {
            s.append(x.cell(i, 1)).append(' ').append(x.cell(i, 2)).append(' ').append(x.place(i)).append(' ');
        }
        return s.append(x.told(7)).append(' ').append(x.told(10)).append(' ').append(x.gate(0, 4)).toString();
    }

    private static void undo() {
        EdgeEchoes x = Due.lineOf(LINE);
        Due.is("undo(0)", x.undo(0), OUTSIDE);
        Due.is("undo(13)", x.undo(13), OUTSIDE);
        Due.is("undo(1) of nothing", x.undo(1), NOT);
        String[] stood = new String[15];
        for (int k = 0; k < 15; k++) {
            stood[k] = apart(x);
            deed(x, k);
        }
        Due.is("12 are kept", x.told(17), 12);
        Due.is("undo(1)", x.undo(1), ticks(stood[14]));
        Due.holds("one undone", stood[14].equals(apart(x)));
        Due.is("11 left", x.told(17), 11);
        Due.is("undo(12) of 11", x.undo(12), NOT);
        x.undo(4);
        Due.holds("five undone", stood[10].equals(apart(x)));
        deed(x, 1);
        deed(x, 0);
        x.undo(2);
        Due.holds("two more done and undone", stood[10].equals(apart(x)));
        x.undo(7);
        Due.holds("all that is kept undone", stood[3].equals(apart(x)));
        Due.is("nothing left", x.undo(1), NOT);
        Due.is("refused ones are no deeds", x.mend(1) + x.told(17), NOT);
        x.drift(5);
        int seed = x.seed(3);
        x.seed(seed);
        x.see(1, 1, true);
        x.write(0, 0);
        x.undo(1);
        Due.is("the seed stays", x.seed(0), seed);
        Due.is("SEEN stays", x.told(15), 1);
        Due.is("BOOK stays", x.told(16), 1);
    }

    private static void deed(EdgeEchoes x, int k) {
        switch (k % 10) {
            case 0: x.drive(true); break;
            case 1: x.tick(3); break;
            case 2: other(x, x.cut(2), 2); break;
            case 3: other(x, x.brief(3), 3); break;
            case 4: x.tick(2); break;
            case 5: x.piece(1, 70 - k); break;
            case 6: x.end(2, 30 + k); break;
            case 7: x.ohms(40 + k); break;
            case 8: x.quiet(); break;
            default: x.drift(4); break;
        }
    }

    /** Each row of the undone must be one deed: what could not be cut or shorted is mended. */
    private static void other(EdgeEchoes x, int answer, int i) {
        if (answer < 0) {
            x.mend(i);
        }
    }

    /** All but how many can be undone. */
    private static String apart(EdgeEchoes x) {
        StringBuilder s = new StringBuilder();
        for (int what = 10; what >= 5; what--) {
            s.append(x.told(what)).append(' ');
        }
        for (int i = 0; i < 4; i++) {
            s.append(x.cell(i, 1)).append(' ').append(x.cell(i, 2)).append(' ').append(i > 0 ? x.place(i) : 0).append(' ');
        }
        for (int k = 0; k < 2; k++) {
            s.append(x.wire(k, 0)).append(' ').append(x.gate(k, 4)).append(' ');
        }
        s.append(x.told(11));
        return s.toString();
    }

    private static int ticks(String stood) {
        return Integer.parseInt(stood.substring(0, stood.indexOf(' ')));
    }
}
