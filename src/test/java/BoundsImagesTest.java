/** Every boundary that section 3 and promises 31 to 33 name of the seed and the images. */
public final class BoundsImagesTest {
    private static final int UNKNOWN = EdgeEchoes.UNKNOWN, OUTSIDE = EdgeEchoes.OUTSIDE, NOT = EdgeEchoes.NOT;
    private static final int MOST = 2147483647;

    public static void main(String[] args) {
        seedRefusals();
        seedFrom0ToMost();
        seedWrapsAround();
        seedStays();
        keepRefusals();
        goBackRefusals();
        twoImages();
        nothingUndoneThen();
        whatAnImageHolds();
        imagesWithoutLine();
        goneWithALine();
        Due.end();
    }

    /** seed: "(0 .. 2147483647) .. OUTSIDE." */
    private static void seedRefusals() {
        for (int v : new int[] {-1, -2, Integer.MIN_VALUE, Integer.MIN_VALUE + 1}) {
            Twins.refused(Twins.ALL, "seed(" + v + ")", x -> x.seed(v), OUTSIDE);
        }
    }

    /** "0 at first", "what it was" */
    private static void seedFrom0ToMost() {
        EdgeEchoes x = new EdgeEchoes();
        Due.is("0 at first", x.seed(MOST), 0);
        Due.is("the greatest", x.seed(0), MOST);
        Due.is("the least", x.seed(1), 0);
        Due.is("another", x.seed(MOST - 1), 1);
        Due.is("refused", x.seed(-1), OUTSIDE);
        Due.is("it stays", x.seed(0), MOST - 1);
        Due.is("no deed", x.told(17), 0);
    }

    /** "it times 1103515245 and 12345, left over by 2 to the 31" */
    private static void seedWrapsAround() {
        // 2147483647 is 1 less than 2 to the 31: 12345 less 1103515245, and 2 to the 31 again.
        draws(MOST, 1043980748);
        draws(0, 12345);
        draws(1, 1103527590);
        // 2207042835 less 2147483648.
        draws(2, 59559187);
        draws(1073741824, 1073754169);
        // As the plain numbers have it, without any bound.
        java.math.BigInteger seed = java.math.BigInteger.ZERO;
        EdgeEchoes x = Due.lineOf("d1 1;p1 1;");
        for (int k = 0; k < 100; k++) {
            seed = seed.multiply(java.math.BigInteger.valueOf(1103515245)).add(java.math.BigInteger.valueOf(12345))
                .mod(java.math.BigInteger.ONE.shiftLeft(31));
            x.drift(1);
            Due.is("draw " + k, x.seed(seed.intValueExact()), seed.intValueExact());
        }
    }

    private static void draws(int seed, int next) {
        EdgeEchoes x = Due.lineOf("d1 1;p1 1;");
        x.seed(seed);
        Due.is("drift(1)", x.drift(1), 1);
        Due.is("behind " + seed, x.seed(seed), next);
        // Two cells: a second draw on 3, which is of 1 and so always place 1.
        EdgeEchoes two = Due.lineOf("d1 1;p1 2;");
        two.seed(seed);
        two.drift(1);
        Due.is("place 1 behind " + seed, two.place(1), next / 65536 % 8 == 3 ? 1 : 0);
        Due.is("HIGH behind " + seed, two.told(7), next / 65536 % 8 <= 1 ? 1 : 0);
    }

    /** THE SEED stays with a line, with a fault, with what is undone and torn. */
    private static void seedStays() {
        EdgeEchoes x = new EdgeEchoes();
        x.seed(MOST);
        Due.told(x, "x");
        Due.told(x, "");
        Due.told(x, "d1 1;p1 3;");
        x.tick(3);
        x.quiet();
        x.tear();
        x.undo(2);
        x.keep(0);
        Due.is("it stays", x.seed(5), MOST);
        x.drift(1);
        x.undo(1);
        Due.is("undone, it stays drawn", x.seed(5), (int) (5 * 1103515245L + 12345L & MOST));
    }

    /** keep: "UNKNOWN." */
    private static void keepRefusals() {
        for (int i : Twins.beyond(0, 1)) {
            Twins.refused(Twins.ALL, "keep(" + i + ")", x -> x.keep(i), UNKNOWN);
        }
    }

    /** goBack: "UNKNOWN, NOT: it was not kept." */
    private static void goBackRefusals() {
        for (int i : Twins.beyond(0, 1)) {
            Twins.refused(Twins.ALL, "goBack(" + i + ")", x -> x.goBack(i), UNKNOWN);
        }
        for (Twins.Stand stand : Twins.ALL) {
            boolean first = stand == Twins.NO_CELLS || stand == Twins.BUSY;
            boolean second = stand == Twins.NO_LINE || stand == Twins.LARGEST;
            if (first) {
                Due.is(stand.name + ": goBack(0)", stand.made().goBack(0), 1);
            } else {
                Twins.refused(stand, "goBack(0)", x -> x.goBack(0), NOT);
            }
            if (second) {
                Due.is(stand.name + ": goBack(1)", stand.made().goBack(1), 1);
            } else {
                Twins.refused(stand, "goBack(1)", x -> x.goBack(1), NOT);
            }
        }
    }

    /** "IMAGES 0, 1": each for itself, kept over what was kept, gone back to as often as one likes. */
    private static void twoImages() {
        EdgeEchoes x = Due.lineOf("d1 1;p1 3;");
        x.tick(1);
        Due.is("keep(0)", x.keep(0), 1);
        x.tick(1);
        Due.is("keep(1)", x.keep(1), 1);
        x.tick(1);
        Due.is("goBack(0)", x.goBack(0), 1);
        Due.is("TICKS of 0", x.told(10), 1);
        Due.is("goBack(1)", x.goBack(1), 1);
        Due.is("TICKS of 1", x.told(10), 2);
        x.tick(5);
        Due.is("goBack(1) again", x.goBack(1), 1);
        Due.is("TICKS of 1 again", x.told(10), 2);
        x.tick(5);
        Due.is("keep(0) over it", x.keep(0), 1);
        x.goBack(1);
        x.goBack(0);
        Due.is("TICKS of 0 over it", x.told(10), 7);
        x.goBack(1);
        Due.is("1 is as it was", x.told(10), 2);
    }

    /** "(nothing can be undone then)", with keep() and with goBack(). */
    private static void nothingUndoneThen() {
        EdgeEchoes x = Due.lineOf("d1 1;p1 3;");
        x.tick(1);
        x.tick(1);
        x.keep(0);
        Due.is("keep: told(17)", x.told(17), 0);
        Due.is("keep: undo(1)", x.undo(1), NOT);
        x.tick(1);
        Due.is("one since", x.told(17), 1);
        x.goBack(0);
        Due.is("goBack: told(17)", x.told(17), 0);
        Due.is("goBack: undo(1)", x.undo(1), NOT);
        x.tick(1);
        Due.is("undo(1) since", x.undo(1), 2);
        EdgeEchoes full = Twins.FILLED.made();
        full.keep(1);
        Due.is("twelve are gone", full.told(17), 0);
        for (int k = 1; k <= 13; k++) {
            full.tick(1);
            Due.is("deeds since", full.told(17), Math.min(12, k));
        }
    }

    /** "IMAGES 0, 1 keep all of section 2, THE SEED", and nothing else. */
    private static void whatAnImageHolds() {
        EdgeEchoes x = Twins.FILLED.made();
        x.seed(MOST);
        x.keep(0);
        int on = x.cell(0, 1);
        int edges = x.gate(1, 4);
        x.tear();
        x.see(7, 7, true);
        x.line();
        // That was another line: the image is gone with it.
        Due.is("another line", x.goBack(0), NOT);
        EdgeEchoes y = Twins.FILLED.made();
        y.seed(MOST);
        y.keep(0);
        y.tear();
        y.see(7, 7, true);
        y.drift(30);
        y.quiet();
        y.ohms(77);
        y.piece(1, 77);
        y.end(2, 77);
        y.seed(3);
        y.goBack(0);
        Due.is("ON", y.cell(0, 1), on);
        Due.is("EDGES", y.gate(1, 4), edges);
        Due.is("R", y.told(5), 10);
        Due.is("OHMS", y.wire(1, 0), 25);
        Due.is("THE END", y.told(8), 0);
        Due.is("TICKS", y.told(10), 12);
        Due.is("THE SEED", y.seed(0), MOST);
        Due.is("what is SEEN is not of it", y.told(15), 1);
        Due.is("nor THE BOOK", y.told(16), 0);
        Due.is("nor THE TEXT", y.told(4), 240);
    }

    private static void imagesWithoutLine() {
        EdgeEchoes x = new EdgeEchoes();
        Due.is("keep(0)", x.keep(0), 1);
        Due.is("goBack(1)", x.goBack(1), NOT);
        x.seed(8);
        Due.is("goBack(0)", x.goBack(0), 1);
        Due.is("its seed", x.seed(9), 0);
        Due.is("no line", x.told(0), 0);
        Due.is("a line", Due.told(x, "d1 1;p1 1;"), 1);
        Due.is("gone", x.goBack(0), NOT);
        Due.is("the line stays", x.told(0), 1);
    }

    /** line: "IMAGES .. are gone", both; with a fault both stay. */
    private static void goneWithALine() {
        for (int i = 0; i <= 1; i++) {
            for (String text : new String[] {"", " ", "d1 1;"}) {
                EdgeEchoes x = Due.lineOf("d1 1;p1 3;");
                x.keep(i);
                Due.told(x, "x");
                Due.is("a fault: goBack(" + i + ")", x.goBack(i), 1);
                Due.told(x, text);
                Due.is("'" + text + "': goBack(" + i + ")", x.goBack(i), NOT);
                x.keep(1 - i);
                Due.is("'" + text + "': goBack(" + i + ") still", x.goBack(i), NOT);
            }
        }
    }
}
