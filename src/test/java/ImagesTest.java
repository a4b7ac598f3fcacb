/** Promises 31 to 33: seed, keep, goBack. */
public final class ImagesTest {
    private static final int UNKNOWN = EdgeEchoes.UNKNOWN, OUTSIDE = EdgeEchoes.OUTSIDE, NOT = EdgeEchoes.NOT;
    private static final String LINE = "d10 6;p20 2;p40 2;e2 20;g0 0 4;g2 3 2;";

    public static void main(String[] args) {
        seed();
        keepAndGoBack();
        allOfSectionTwo();
        withoutLine();
        Due.end();
    }

    private static void seed() {
        EdgeEchoes x = new EdgeEchoes();
        Due.is("seed(-1)", x.seed(-1), OUTSIDE);
        Due.is("seed(min)", x.seed(Integer.MIN_VALUE), OUTSIDE);
        Due.is("seed(max)", x.seed(2147483647), 0);
        Due.is("seed(5)", x.seed(5), 2147483647);
        Due.is("seed(-1) changes nothing", x.seed(-1), OUTSIDE);
        Due.is("seed(0)", x.seed(0), 5);
    }

    private static void keepAndGoBack() {
        EdgeEchoes x = Due.lineOf(LINE);
        Due.is("keep(2)", x.keep(2), UNKNOWN);
        Due.is("keep(-1)", x.keep(-1), UNKNOWN);
        Due.is("goBack(2)", x.goBack(2), UNKNOWN);
        Due.is("goBack(-1)", x.goBack(-1), UNKNOWN);
        Due.is("goBack(0)", x.goBack(0), NOT);
        x.seed(11);
        x.drive(true);
        x.tick(3);
        Due.is("can be undone", x.told(17), 2);
        Due.is("keep(1)", x.keep(1), 1);
        Due.is("nothing can be undone", x.told(17), 0);
        Due.is("undo(1)", x.undo(1), NOT);
        Due.is("goBack(0) still", x.goBack(0), NOT);
        x.tick(1);
        x.seed(12);
        Due.is("goBack(0) refused", x.goBack(0), NOT);
        Due.is("it changed nothing", x.told(17), 1);
        Due.is("keep(0)", x.keep(0), 1);
        x.tick(5);
        x.see(1, 1, true);
        x.write(0, 3);
        Due.is("goBack(1)", x.goBack(1), 1);
        Due.is("ticks of 1", x.told(10), 3);
        Due.is("nothing can be undone then", x.told(17), 0);
        Due.is("undo(1) then", x.undo(1), NOT);
        Due.is("SEEN stays", x.told(15), 1);
        Due.is("BOOK stays", x.told(16), 1);
        Due.is("seed of 1", x.seed(40), 11);
        Due.is("goBack(0) now", x.goBack(0), 1);
        Due.is("ticks of 0", x.told(10), 4);
        Due.is("seed of 0", x.seed(50), 12);
        Due.is("goBack(0) twice", x.goBack(0), 1);
        Due.is("seed of 0 twice", x.seed(60), 12);
        x.tick(2);
        Due.is("keep(0) over", x.keep(0), 1);
        x.tick(9);
        x.goBack(0);
        Due.is("ticks of the later image", x.told(10), 6);
        Due.is("seed of the later image", x.seed(0), 60);
    }

    private static void allOfSectionTwo() {
        EdgeEchoes x = Due.lineOf(LINE);
        x.drive(true);
        x.tick(6);
        x.cut(1);
        x.brief(2);
        x.piece(1, 77);
        x.end(2, 33);
        x.ohms(5);
        x.tick(2);
        x.keep(0);
        String was = Due.all(x);
        x.quiet();
        x.drive(false);
        x.tick(7);
        x.mend(1);
        x.mend(2);
        x.piece(0, 9);
        x.piece(1, 9);
        x.end(1, 1);
        x.ohms(9);
        x.drift(20);
        x.goBack(0);
        Due.holds("all is as kept", was.equals(Due.all(x)));
        // The three ticks of a slow gate are kept in an image, too.
        EdgeEchoes slow = Due.lineOf("d0 5;p9 1;g2 0 5;");
        slow.drive(true);
        slow.tick(2);
        slow.keep(0);
        slow.drive(false);
        slow.tick(1);
        slow.goBack(0);
        slow.tick(1);
        Due.is("slow: third tick", slow.gate(0, 3), 1);
        // A fault keeps images, another line does not.
        Due.is("a fault", Due.told(slow, "d"), -11);
        Due.is("kept all the same", slow.goBack(0), 1);
        Due.is("another line", Due.told(slow, "d1 1;"), 0);
        Due.is("gone", slow.goBack(0), NOT);
    }

    private static void withoutLine() {
        EdgeEchoes x = new EdgeEchoes();
        x.seed(9);
        Due.is("keep(0) without a line", x.keep(0), 1);
        x.seed(10);
        Due.is("goBack(0) without a line", x.goBack(0), 1);
        Due.is("its seed", x.seed(0), 9);
        Due.is("no line still", x.told(0), 0);
    }
}
