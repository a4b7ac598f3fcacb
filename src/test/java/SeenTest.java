/** Promises 25 to 30: see, couldBe, look, write, judge, tear. */
public final class SeenTest {
    private static final int UNKNOWN = EdgeEchoes.UNKNOWN, OUTSIDE = EdgeEchoes.OUTSIDE;
    private static final int FULL = EdgeEchoes.FULL, NONE = EdgeEchoes.NONE;

    public static void main(String[] args) {
        see();
        couldBe();
        couldBeAsTicksTell();
        look();
        book();
        tear();
        Due.end();
    }

    private static void see() {
        EdgeEchoes x = new EdgeEchoes();
        Due.is("see(0, 0, true)", x.see(0, 0, true), OUTSIDE);
        Due.is("see(151, 0, true)", x.see(151, 0, true), OUTSIDE);
        Due.is("see(1, -1, true)", x.see(1, -1, true), OUTSIDE);
        Due.is("see(1, 99001, true)", x.see(1, 99001, true), OUTSIDE);
        Due.is("see(1, 0, true)", x.see(1, 0, true), 1);
        Due.is("see(150, 99000, false)", x.see(150, 99000, false), 2);
        for (int k = 3; k <= 6; k++) {
            Due.is("see " + k, x.see(k, k, false), k);
        }
        Due.is("see 7", x.see(1, 1, false), FULL);
        Due.is("see 7 outside", x.see(0, 1, false), OUTSIDE);
        Due.is("told(15)", x.told(15), 6);
    }

    private static void could(EdgeEchoes x, String when, int many, int least, int greatest) {
        Due.is(when + ": couldBe(0)", x.couldBe(0), many);
        Due.is(when + ": couldBe(1)", x.couldBe(1), least);
        Due.is(when + ": couldBe(2)", x.couldBe(2), greatest);
    }

    /** A driver of the wire's ohms: 3 volts at first, 6 when a cut, 0 when a short has sent it back. */
    private static void couldBe() {
        EdgeEchoes x = Due.lineOf("d10 6;p10 5;e2 10;");
        could(x, "nothing seen", 8, 2, 9);
        Due.is("couldBe(3)", x.couldBe(3), OUTSIDE);
        Due.is("couldBe(-1)", x.couldBe(-1), OUTSIDE);
        x.see(1, 3000, true);
        could(x, "3 volts behind 1", 8, 2, 9);
        x.see(4, 3000, true);
        could(x, "no short at 1, 2", 6, 2, 9);
        x.see(4, 3001, false);
        could(x, "no cut at 1, 2 either", 4, 6, 9);
        x.see(8, 3000, false);
        could(x, "a short at 3, 4", 2, 7, 9);
        x.see(6, 1, false);
        could(x, "a short at 3", 1, 7, 7);
        x.see(150, 1, true);
        could(x, "nothing fits", 0, NONE, NONE);
        x.tear();
        x.see(2, 6000, true);
        could(x, "a cut at 1", 1, 2, 2);
        x.tear();
        // Only places that are whole now; what is cut or short now stays so.
        x.cut(3);
        x.brief(4);
        could(x, "two are not whole", 4, 2, 5);
        x.see(6, 6000, true);
        could(x, "cuts, all", 2, 2, 4);
        x.drive(true);
        x.tick(9);
        could(x, "from a quiet line all the same", 2, 2, 4);
        Due.is("nothing changed", x.told(10), 9);
        Due.is("places as they were", x.place(1), 0);
        EdgeEchoes one = Due.lineOf("d10 6;p10 1;");
        could(one, "one cell", 0, NONE, NONE);
    }

    private static void couldBeAsTicksTell() {
        String text = "d3 9;p20 3;p70 4;p5 2;e1 1;";
        for (int round = 0; round < 40; round++) {
            EdgeEchoes x = Due.lineOf(text);
            int t = 1 + round * 37 % 150;
            int v = round * 977 % 12000;
            int t2 = 1 + round * 11 % 150;
            x.see(t, v, round % 3 != 0);
            x.see(t2, 5000, round % 2 == 0);
            int many = 0;
            int least = NONE;
            int greatest = NONE;
            for (int i = 1; i < 9; i++) {
                for (int shorted = 0; shorted < 2; shorted++) {
                    if ((voltsBy(text, i, shorted, t) >= v) == (round % 3 != 0)
                        && (voltsBy(text, i, shorted, t2) >= 5000) == (round % 2 == 0)) {
                        many++;
                        least = least == NONE ? 2 * i + shorted : least;
                        greatest = 2 * i + shorted;
                    }
                }
            }
            could(x, "round " + round, many, least, greatest);
        }
    }

    private static int voltsBy(String text, int i, int shorted, int t) {
        EdgeEchoes y = Due.lineOf(text);
        y.drive(true);
        if (shorted == 1) {
            y.brief(i);
        } else {
            y.cut(i);
        }
        return y.volts(0, t, 0) - 1000000;
    }

    private static void look() {
        EdgeEchoes x = Due.lineOf("d10 6;p10 5;e2 10;");
        // Behind 2: 1 cut 6000, 1 short 0, six are 3000; behind 4: 2, 2, 4; behind 6: 3, 3, 2; behind 8: 4, 4.
        Due.is("look(): greatest part 3", x.look(), 6);
        x.see(4, 3000, true);
        // Cuts at 1 to 4, shorts at 3, 4: behind 6: 3 cuts, 1 short, 2 others; behind 4: 2 cuts, 4 others.
        Due.is("look(): of six", x.look(), 6);
        x.see(4, 3001, false);
        // 3 cut, 3 short, 4 cut, 4 short: behind 6 parts of 1, 1, 2; behind 8 parts of 2, 2; the least of like ones.
        Due.is("look(): of four", x.look(), 6);
        x.see(6, 3000, false);
        Due.is("look(): of one", x.look(), NONE);
        x.see(6, 3000, true);
        Due.is("look(): of none", x.look(), NONE);
        x.tear();
        x.cut(1);
        // All behind a cut that is there already look alike.
        Due.is("look(): none parts them", x.look(), NONE);
        x.mend(1);
        Due.is("look(): mended", x.look(), 6);
        EdgeEchoes two = Due.lineOf("d10 6;p10 2;e2 10;");
        Due.is("look(): one place", two.look(), 2);
        lookAtItsEdges();
    }

    private static void lookAtItsEdges() {
        String cells = "p10 9;p10 9;p10 9;p10 9;p10 9;p10 9;p10 9;p10 9;e2 10;";
        EdgeEchoes x = Due.lineOf("d10 6;" + cells);
        Due.is("look(): 71 places", x.look(), lookByHand());
        Due.is("couldBe(0): 71 places", x.couldBe(0), 142);
        Due.is("couldBe(2): 71 places", x.couldBe(2), 143);
        // A cut at 30 or 31: they part behind 60, the last to look at.
        x.see(58, 3001, false);
        x.see(62, 6000, true);
        could(x, "a cut at 30 or 31", 2, 60, 62);
        Due.is("look(): behind 60", x.look(), 60);
        x.tear();
        x.see(60, 3001, false);
        x.see(64, 6000, true);
        could(x, "a cut at 31 or 32", 2, 62, 64);
        Due.is("look(): they part behind 62", x.look(), NONE);
        // Behind 61 the greatest part would be 1, but that is not looked at.
        EdgeEchoes y = Due.lineOf("d3 2;p38 8;p50 1;e2 26;");
        Due.is("look(): not behind 61", y.look(), 25);
    }

    /** Of like ohms throughout: a cut or a short at place i tells behind 2 times i ticks, for good. */
    private static int lookByHand() {
        int best = NONE;
        int fewest = 142;
        for (int t = 1; t <= 60; t++) {
            int cuts = t / 2;
            int most = Math.max(cuts, 142 - 2 * cuts);
            if (most < fewest) {
                fewest = most;
                best = t;
            }
        }
        return best;
    }

    private static void book() {
        EdgeEchoes x = Due.lineOf("d0 5;p10 1;e2 10;g0 0 5;g3 0 5;");
        Due.is("judge() of no book", x.judge(), NONE);
        Due.is("write(2, 0)", x.write(2, 0), UNKNOWN);
        Due.is("write(-1, -1)", x.write(-1, -1), UNKNOWN);
        Due.is("write(0, -1)", x.write(0, -1), OUTSIDE);
        Due.is("write(0, 10000)", x.write(0, 10000), OUTSIDE);
        Due.is("write(0, 0)", x.write(0, 0), 1);
        Due.is("write(1, 0)", x.write(1, 0), 2);
        Due.is("judge()", x.judge(), NONE);
        x.tick(1);
        Due.is("judge() behind a tick", x.judge(), 1);
        x.drive(true);
        x.tick(1);
        Due.is("judge() of both", x.judge(), 0);
        x.undo(3);
        Due.is("judge() undone", x.judge(), NONE);
        Due.is("write(0, 9999)", x.write(0, 9999), 3);
        Due.is("judge() of the third", x.judge(), 2);
        for (int k = 4; k <= 20; k++) {
            Due.is("write " + k, x.write(1, k), k);
        }
        Due.is("write 21", x.write(1, 0), FULL);
        Due.is("write 21 outside", x.write(1, -1), OUTSIDE);
        Due.is("write 21 unknown", x.write(2, -1), UNKNOWN);
        Due.is("told(16)", x.told(16), 20);
        Due.is("judge() stays", x.judge(), 2);
    }

    private static void tear() {
        EdgeEchoes x = Due.lineOf("d0 5;p10 2;g0 0 5;");
        Due.is("tear() of nothing", x.tear(), 0);
        x.see(1, 1, true);
        x.see(2, 1, true);
        x.write(0, 7);
        Due.is("tear()", x.tear(), 3);
        Due.is("nothing SEEN", x.told(15), 0);
        Due.is("no BOOK", x.told(16), 0);
        Due.is("judge()", x.judge(), NONE);
        Due.is("couldBe(0)", x.couldBe(0), 2);
        Due.is("tear() again", x.tear(), 0);
        Due.is("see anew", x.see(1, 1, true), 1);
        Due.is("write anew", x.write(0, 0), 1);
    }
}
