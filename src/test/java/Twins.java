import java.util.ArrayList;
import java.util.HashMap;
import java.util.List;
import java.util.Map;

/**
 * Shows that a refused call changes nothing: an object that has heard it, and a twin led the same way that has not,
 * answer alike from there on. Each row of questions has objects of its own, as an object is good for 512 calls.
 */
final class Twins {
    /** One call with its answer. */
    interface Call {
        int on(EdgeEchoes x);
    }

    /** Calls whose answers do not matter here. */
    interface Calls {
        void on(EdgeEchoes x);
    }

    /** A way to lead a new object to where calls are asked; it leaves some 150 calls of the 512. */
    static final class Stand {
        final String name;
        final Calls way;

        Stand(String name, Calls way) {
            this.name = name;
            this.way = way;
        }

        EdgeEchoes made() {
            EdgeEchoes x = new EdgeEchoes();
            way.on(x);
            return x;
        }
    }

    static final String EIGHT_PIECES = "p50 9;p25 9;p50 9;p75 9;p50 9;p99 9;p1 9;p50 9;";
    static final String SIX_GATES = "g0 71 4;g1 9 3;g2 1 2;g3 0 2;g0 0 9;g2 71 1;";

    static final Stand NEW = new Stand("new", x -> { });

    static final Stand NO_LINE = new Stand("no line", x -> {
        x.seed(99);
        x.see(3, 3000, true);
        x.keep(1);
        Due.feed(x, "d1 1;p2");
    });

    static final Stand BLANKED = new Stand("a line, then blanks", x -> {
        Due.told(x, "d9 9;p9 3;p8 2;e2 7;g3 0 1;g0 1 1;");
        x.drive(true);
        x.tick(9);
        x.keep(0);
        x.cut(1);
        Due.told(x, "  ");
    });

    static final Stand NO_CELLS = new Stand("no cells", x -> {
        Due.told(x, "d5 5;e1 9;g3 0 1;g0 71 1;");
        x.drive(true);
        x.tick(2);
        x.keep(0);
        x.ohms(6);
        x.write(0, 1);
    });

    static final Stand ONE_CELL = new Stand("one cell", x -> {
        Due.told(x, "d5 5;p9 1;g0 0 4;g2 0 2;");
        x.seed(2147483647);
        x.drive(true);
        x.tick(2);
    });

    static final Stand BUSY = new Stand("busy", x -> {
        Due.told(x, "d10 5;p50 3;p25 2;p50 4;e2 40;g0 8 4;g1 4 3;g2 0 4;g3 0 2;");
        x.seed(12345);
        x.drive(true);
        x.tick(7);
        x.keep(0);
        x.cut(3);
        x.brief(6);
        x.tick(9);
        x.piece(1, 60);
        x.drive(false);
        // Two of the three ticks of the slow gate have passed: these are not to be lost.
        x.tick(2);
        x.see(5, 4000, true);
        x.see(30, 4500, false);
        x.write(0, 1);
        x.write(3, 1);
        Due.feed(x, "d7 7;p9");
    });

    static final Stand LARGEST = new Stand("largest", x -> {
        Due.told(x, "d99 99;" + EIGHT_PIECES + SIX_GATES);
        x.drive(true);
        x.tick(50);
        x.cut(71);
        x.brief(1);
        x.tick(50);
        x.keep(1);
    });

    static final Stand FILLED = new Stand("filled", x -> {
        Due.told(x, "d10 5;p50 3;p25 2;g0 4 4;g3 0 2;");
        for (int k = 0; k < 6; k++) {
            x.see(20 + k, 2000 + 100 * k, true);
        }
        for (int k = 0; k < 20; k++) {
            x.write(k % 2, k);
        }
        x.drive(true);
        for (int k = 0; k < 12; k++) {
            x.tick(1);
        }
        Due.feed(x, "d3 3;p3 3;" + " ".repeat(230));
    });

    static final List<Stand> ALL = List.of(NEW, NO_LINE, BLANKED, NO_CELLS, ONE_CELL, BUSY, LARGEST, FILLED);
    static final List<Stand> WITHOUT_LINE = List.of(NEW, NO_LINE, BLANKED);
    static final List<Stand> WITH_LINE = List.of(NO_CELLS, ONE_CELL, BUSY, LARGEST, FILLED);

    /** What lies just outside of bounds, and far away. */
    static int[] beyond(int low, int high) {
        return new int[] {low - 1, high + 1, Integer.MIN_VALUE, Integer.MAX_VALUE};
    }

    private static final Map<String, List<String>> UNTOUCHED = new HashMap<>();

    private Twins() {
    }

    static void refused(Stand stand, String call, Call made, int want) {
        same(stand, call + " refused", x -> Due.is(stand.name + ": " + call, made.on(x), want));
    }

    static void refused(List<Stand> stands, String call, Call made, int want) {
        for (Stand stand : stands) {
            refused(stand, call, made, want);
        }
    }

    /** The calls leave all as it was, but for what fault() tells. */
    static void same(Stand stand, String what, Calls calls) {
        List<String> due = UNTOUCHED.computeIfAbsent(stand.name, name -> answers(stand, x -> { }));
        List<String> got = answers(stand, calls);
        for (int k = 0; k < due.size(); k++) {
            Due.holds(stand.name + ": " + what + ", question row " + k + ": " + got.get(k) + " for " + due.get(k),
                got.get(k).equals(due.get(k)));
        }
    }

    private static List<String> answers(Stand stand, Calls calls) {
        List<String> rows = new ArrayList<>();
        for (int row = 0; row < 10; row++) {
            EdgeEchoes x = stand.made();
            calls.on(x);
            StringBuilder s = new StringBuilder();
            ask(x, row, s);
            rows.add(s.toString());
        }
        return rows;
    }

    private static void ask(EdgeEchoes x, int row, StringBuilder s) {
        switch (row) {
            case 0: standing(x, s); break;
            case 1: waves(x, s); break;
            case 2: tried(x, s); break;
            case 3: undone(x, s); break;
            case 4: image(x, 0, s); break;
            case 5: image(x, 1, s); break;
            case 6: text(x, s); break;
            case 7: entries(x, s); break;
            case 8: drifted(x, s); break;
            default: watched(x, s); break;
        }
    }

    private static void standing(EdgeEchoes x, StringBuilder s) {
        for (int what = 0; what <= 17; what++) {
            add(s, x.told(what));
        }
        for (int k = 0; k < 24; k++) {
            add(s, x.wire(k / 3, k % 3));
        }
        for (int k = 0; k < 36; k++) {
            add(s, x.gate(k / 6, k % 6));
        }
        for (int i = 1; i <= 71; i++) {
            add(s, x.place(i));
        }
    }

    private static void waves(EdgeEchoes x, StringBuilder s) {
        for (int i = 0; i <= 71; i++) {
            add(s, x.cell(i, 1));
            add(s, x.cell(i, 2));
        }
    }

    private static void tried(EdgeEchoes x, StringBuilder s) {
        for (int n : new int[] {0, 1, 7, 200}) {
            for (int k = 0; k < 12; k++) {
                add(s, x.volts(k / 3 * 3, n, k % 3));
                add(s, x.sees(k / 2, n, k % 2));
            }
        }
        for (int i = 0; i < 9; i++) {
            add(s, x.rest(i));
        }
        for (int what = 0; what <= 2; what++) {
            add(s, x.couldBe(what));
        }
        add(s, x.look());
        add(s, x.judge());
    }

    private static void undone(EdgeEchoes x, StringBuilder s) {
        for (int k = 0; k < 13; k++) {
            add(s, x.undo(1));
            brief(x, s);
        }
    }

    private static void image(EdgeEchoes x, int i, StringBuilder s) {
        add(s, x.goBack(i));
        brief(x, s);
        add(s, x.seed(0));
        standing(x, s);
    }

    /** What has been fed tells itself when it is read; a second clause parts like beginnings. */
    private static void text(EdgeEchoes x, StringBuilder s) {
        add(s, x.feed(' '));
        add(s, x.feed('3'));
        add(s, x.feed(';'));
        add(s, x.line());
        add(s, x.fault());
        standing(x, s);
    }

    private static void entries(EdgeEchoes x, StringBuilder s) {
        add(s, x.write(0, 0));
        add(s, x.see(9, 9, true));
        add(s, x.judge());
        add(s, x.couldBe(0));
        add(s, x.told(15));
        add(s, x.told(16));
        add(s, x.tear());
        add(s, x.seed(1));
    }

    private static void drifted(EdgeEchoes x, StringBuilder s) {
        for (int k = 0; k < 3; k++) {
            add(s, x.drift(40));
            brief(x, s);
            for (int i = 1; i < 10; i++) {
                add(s, x.place(i));
            }
        }
        add(s, x.seed(1));
    }

    private static void watched(EdgeEchoes x, StringBuilder s) {
        for (int k = 0; k < 5; k++) {
            add(s, x.tick(1));
            brief(x, s);
            for (int g = 0; g < 6; g++) {
                add(s, x.gate(g, 4));
            }
        }
    }

    private static void brief(EdgeEchoes x, StringBuilder s) {
        add(s, x.told(5));
        add(s, x.told(7));
        add(s, x.told(9));
        add(s, x.told(10));
        add(s, x.told(11));
        add(s, x.cell(0, 1));
        add(s, x.cell(1, 2));
        add(s, x.told(17));
    }

    private static void add(StringBuilder s, int answer) {
        s.append(answer).append(' ');
    }
}
