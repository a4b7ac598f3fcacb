import java.math.BigInteger;

/** Section 3: what is tried, seen, written, drawn, undone, kept. */
final class DocumentTried {
    private static final int NONE = EdgeEchoes.NONE, NOT = EdgeEchoes.NOT;
    private static final String[] LINES = {
        "d10 6;p20 2;p40 1;e2 20;g0 2 5;g1 0 5;g2 1 4;g3 0 5;",
        "d3 9;p20 3;p70 4;p5 2;e1 1;g0 8 1;g1 4 3;g2 3 9;g3 0 6;",
        "d0 7;p30 4;g0 3 14;g1 3 13;g2 0 1;g3 3 1;",
        "d90 20;p10 9;p30 9;p10 9;g0 26 3;g1 20 2;g2 0 4;g3 9 5;",
    };

    private DocumentTried() {
    }

    static void all() {
        nothingChanges();
        voltsPeakLeast();
        rest();
        seesFirstDeceived();
        fromAQuietLine();
        over();
        driver();
        comesBack();
        seen();
        couldBe();
        look();
        noNoise();
        book();
        seed();
        byDraws();
        undone();
        images();
    }

    /** The line with much running along it already. */
    private static EdgeEchoes running(String text) {
        EdgeEchoes x = Sentences.high(text);
        x.tick(5);
        x.drive(false);
        x.tick(2);
        x.drive(true);
        x.tick(1);
        return x;
    }

    private static void nothingChanges() {
        Sentences.says("TRIED from now, as nothing else is done; nothing changes by it.");
        for (Twins.Stand stand : Twins.ALL) {
            Twins.same(stand, "what is tried", x -> {
                Sentences.holds("volts", x.volts(1, 99, 0) + x.volts(2, 99, 1) + x.volts(0, 99, 2) > 0);
                Sentences.holds("rest", x.rest(1) >= 0);
                x.sees(0, 99, 0);
                x.sees(1, 99, 1);
                x.gate(0, 5);
                x.told(12);
                x.told(13);
                x.told(14);
                x.couldBe(0);
                x.look();
            });
        }
        EdgeEchoes x = running(LINES[0]);
        EdgeEchoes y = running(LINES[0]);
        for (int n = 0; n < 30; n++) {
            Sentences.is("from now on, behind " + n, x.volts(2, n, 0), y.cell(2, 0));
            y.tick(1);
        }
    }

    private static void voltsPeakLeast() {
        Sentences.says("VOLTS of a CELL behind n TICKS (0 .. 200);");
        for (String text : LINES) {
            EdgeEchoes x = running(text);
            EdgeEchoes y = running(text);
            for (int n = 0; n <= 200; n++) {
                Sentences.is(text + " behind " + n, x.volts(n % 3, n, 0), y.cell(n % 3, 0));
                y.tick(1);
            }
        }
        EdgeEchoes none = Due.lineOf("d1 1;p1 1;");
        Sentences.is("behind -1", none.volts(0, -1, 0), EdgeEchoes.OUTSIDE);
        Sentences.is("behind 201", none.volts(0, 201, 0), EdgeEchoes.OUTSIDE);
        Sentences.says("PEAK, LEAST: the greatest, the least of these behind 0 to n TICKS.");
        for (String text : LINES) {
            EdgeEchoes ofPeak = running(text);
            EdgeEchoes ofLeast = running(text);
            EdgeEchoes y = running(text);
            int peak = y.cell(1, 0);
            int least = peak;
            for (int n = 0; n <= 200; n++) {
                int volts = y.cell(1, 0);
                peak = Math.max(peak, volts);
                least = Math.min(least, volts);
                Sentences.is(text + " PEAK to " + n, ofPeak.volts(1, n, 1), peak);
                Sentences.is(text + " LEAST to " + n, ofLeast.volts(1, n, 2), least);
                y.tick(1);
            }
        }
    }

    private static void rest() {
        Sentences.says("REST: behind how many TICKS (0 .. 200) on VOLTS of a CELL are no more than 20 thousandths from those "
            + "behind 200 (and behind all later ones up to 200).");
        for (String text : LINES) {
            for (int i = 0; i < 3; i++) {
                EdgeEchoes y = running(text);
                int[] volts = new int[201];
                for (int n = 0; n <= 200; n++) {
                    volts[n] = y.cell(i, 0);
                    y.tick(1);
                }
                int want = 0;
                for (int n = 0; n <= 200; n++) {
                    want = Math.abs(volts[n] - volts[200]) > 20 ? n + 1 : want;
                }
                Sentences.is(text + " REST of " + i, running(text).rest(i), want);
            }
        }
        // An echo of 20, and one of 21, comes back behind 4 ticks.
        Sentences.is("20 is no matter", Sentences.high("d60 1;p60 2;e2 65;").rest(0), 1);
        Sentences.is("21 is", Sentences.high("d57 1;p57 2;e2 62;").rest(0), 4);
        Sentences.is("20 below", Sentences.high("d50 2;p50 2;e2 48;").rest(0), 1);
        Sentences.is("never", Sentences.high("d0 6;p9 1;").rest(0), 200);
        Sentences.is("always", Due.lineOf("d0 6;p9 1;").rest(0), 0);
        EdgeEchoes still = Sentences.high("d10 6;p10 4;");
        still.tick(20);
        Sentences.is("always, with VOLTS", still.rest(0), 0);
        Sentences.is("these", still.cell(0, 0), 1006000);
        EdgeEchoes falls = Sentences.high("d0 6;p9 1;e2 9;");
        falls.tick(1);
        falls.drive(false);
        Sentences.is("from the next tick on", falls.rest(0), 1);
    }

    private static void seesFirstDeceived() {
        Sentences.says("SEES: what a GATE sees behind n TICKS;");
        for (String text : LINES) {
            EdgeEchoes x = running(text);
            EdgeEchoes y = running(text);
            for (int n = 0; n <= 100; n++) {
                int set = y.told(11);
                for (int g = 0; g < 4; g++) {
                    Sentences.is(text + " GATE " + g + " behind " + n, x.sees(g, n, 0), set >> g & 1);
                }
                y.tick(1);
            }
        }
        Sentences.says("FIRST: behind how many (0 .. 200) it first sees a 1; NONE;");
        for (String text : LINES) {
            for (int g = 0; g < 4; g++) {
                EdgeEchoes y = Sentences.high(text);
                int want = NONE;
                for (int n = 0; n <= 200 && want == NONE; n++) {
                    want = y.gate(g, 3) == 1 ? n : NONE;
                    y.tick(1);
                }
                Sentences.is(text + " FIRST of " + g, Sentences.high(text).gate(g, 5), want);
            }
        }
        // The second edge comes to cell 55 behind 200 ticks, to cell 56 behind 201.
        EdgeEchoes late = Sentences.high("d90 20;p10 9;p10 9;p10 9;p10 9;p10 9;p10 9;p10 9;p10 9;g0 55 5;g0 56 5;");
        Sentences.is("behind 200", late.gate(0, 5), 200);
        Sentences.is("behind 201", late.gate(1, 5), NONE);
        late.tick(1);
        Sentences.is("behind 200 from here", late.gate(1, 5), 200);
        late.drive(false);
        EdgeEchoes now = Sentences.high("d0 5;p9 1;g0 0 5;");
        now.tick(1);
        Sentences.is("now", now.gate(0, 5), 0);
        Sentences.says("DECEIVED: how many EDGES more it has behind n.");
        for (String text : LINES) {
            EdgeEchoes x = running(text);
            EdgeEchoes y = running(text);
            int[] was = {y.gate(0, 4), y.gate(1, 4), y.gate(2, 4), y.gate(3, 4)};
            for (int n = 0; n <= 100; n++) {
                int g = n % 4;
                Sentences.is(text + " GATE " + g + " behind " + n, x.sees(g, n, 1), y.gate(g, 4) - was[g]);
                y.tick(1);
            }
        }
        // The document's first line: a one, nothing, a one, three edges where there was one.
        EdgeEchoes three = Sentences.high("d5 5;p50 1;g0 0 5;");
        Sentences.is("a one", three.sees(0, 2, 0), 1);
        Sentences.is("nothing", three.sees(0, 4, 0), 0);
        Sentences.is("a one again", three.sees(0, 6, 0), 1);
        Sentences.is("three edges", three.sees(0, 6, 1), 3);
    }

    private static void fromAQuietLine() {
        Sentences.says("From a QUIET line (all waves 0, GATES see 0), THE DRIVER HIGH from the first TICK on:");
        for (String text : LINES) {
            EdgeEchoes quiet = Due.lineOf(text);
            EdgeEchoes x = running(text);
            x.drive(false);
            for (int what = 12; what <= 14; what++) {
                Sentences.is(text + " told(" + what + ")", x.told(what), quiet.told(what));
            }
        }
    }

    private static int overByTicks(String text, int r) {
        EdgeEchoes y = Sentences.high(text);
        y.ohms(r);
        int last = y.told(2) - 1;
        int source = 1000 * y.told(6);
        int over = 0;
        for (int n = 0; n <= 200; n++) {
            over = Math.max(over, y.cell(last, 0) - 1000000 - source);
            y.tick(1);
        }
        return over;
    }

    private static void over() {
        Sentences.says("OVER: by how much VOLTS of the last CELL behind 0 to 200 TICKS are above S at most (0 at least).");
        for (String text : LINES) {
            Sentences.is(text + " OVER", Due.lineOf(text).told(12), overByTicks(text, Due.lineOf(text).told(5)));
        }
        Sentences.is("all of S, twice", Due.lineOf("d0 7;p30 4;").told(12), 7000);
        Sentences.is("one CELL", Due.lineOf("d0 99;p30 1;").told(12), 99000);
        Sentences.is("0 at least", Due.lineOf("d50 7;p30 4;e1 1;").told(12), 0);
        // The highest comes behind 200; then one that would come behind 201.
        Sentences.is("behind 200", Due.lineOf("d7 9;p98 5;p1 8;e0 27;").told(12), 1764);
        Sentences.is("not behind 201", Due.lineOf("d24 3;p2 4;p24 1;p10 6;e0 24;").told(12), 66);
    }

    private static void driver() {
        Sentences.says("DRIVER: the R (0 .. 99) by which OVER is least; of like ones the least.");
        String[] lines = {"d33 1;p85 2;p98 6;e0 71;", "d0 7;p30 4;", "d9 9;p99 3;", "d14 1;p31 7;e2 83;"};
        for (String text : lines) {
            int best = 0;
            int least = overByTicks(text, 0);
            for (int r = 1; r <= 99; r++) {
                int over = overByTicks(text, r);
                if (over < least) {
                    best = r;
                    least = over;
                }
            }
            Sentences.is(text + " DRIVER", Due.lineOf(text).told(13), best);
        }
        Sentences.is("98 and 99 are alike", Due.lineOf(lines[0]).told(13), 98);
        Sentences.is("as the wire", Due.lineOf(lines[1]).told(13), 30);
        Sentences.is("the greatest", Due.lineOf(lines[2]).told(13), 99);
        Sentences.is("by 14 it is over by 1", Due.lineOf(lines[3]).told(12), 1);
        Sentences.is("by 15 not at all", Due.lineOf(lines[3]).told(13), 15);
        Sentences.is("all alike", Due.lineOf("d9 9;p40 2;e1 1;").told(13), 0);
    }

    private static void comesBack() {
        Sentences.says("COMES BACK: behind how many TICKS (1 .. 200) BACK of CELL 0 is first not 0; NONE.");
        Sentences.is("one cell", Due.lineOf("d1 1;p1 1;").told(14), 2);
        Sentences.is("four cells", Due.lineOf("d1 1;p1 4;").told(14), 8);
        Sentences.is("other ohms behind three", Due.lineOf("d1 1;p1 3;p2 9;").told(14), 6);
        Sentences.is("nothing", Due.lineOf("d1 1;p1 3;p1 9;e2 1;").told(14), NONE);
        Sentences.is("72 cells", Due.lineOf("d1 1;p1 9;p1 9;p1 9;p1 9;p1 9;p1 9;p1 9;p1 9;").told(14), 144);
        EdgeEchoes below = Due.lineOf("d1 1;p1 4;e1 1;");
        Sentences.is("below 0", below.told(14), 8);
        below.cut(3);
        Sentences.is("from a cut", below.told(14), 6);
    }

    private static void could(EdgeEchoes x, String when, int many, int least, int greatest) {
        Sentences.is(when + ": how many", x.couldBe(0), many);
        Sentences.is(when + ": the least", x.couldBe(1), least);
        Sentences.is(when + ": the greatest", x.couldBe(2), greatest);
    }

    /** Volts of cell 0 with that fault, by ticks: on a line told anew, where the places told are cut already. */
    private static int voltsWith(String text, int fault, int t, int... cut) {
        EdgeEchoes y = Sentences.high(text);
        for (int i : cut) {
            y.cut(i);
        }
        int done = fault % 2 == 1 ? y.brief(fault / 2) : y.cut(fault / 2);
        Due.is("the place was whole", done, 0);
        for (int n = 0; n < t / 50; n++) {
            y.tick(50);
        }
        if (t % 50 > 0) {
            y.tick(t % 50);
        }
        return y.cell(0, 0) - 1000000;
    }

    private static void seen() {
        Sentences.says("SEEN (6 at most): from a QUIET line, likewise HIGH, with just one PLACE more CUT, or SHORT, than now "
            + "(one that is WHOLE), VOLTS of CELL 0 behind t TICKS (1 .. 150) were v thousandths (0 .. 99000) or more, or less.");
        String text = LINES[1];
        for (int t : new int[] {1, 2, 7, 13, 60, 149, 150}) {
            for (int fault = 2; fault <= 17; fault++) {
                int volts = voltsWith(text, fault, t);
                int v = Math.max(0, volts);
                EdgeEchoes x = running(text);
                x.see(t, v, true);
                int orMore = x.couldBe(0);
                x.tear();
                x.see(t, v, false);
                Sentences.is("or more, or less: all of them", orMore + x.couldBe(0), 16);
                x.tear();
                x.see(t, v, volts >= v);
                // Just at its volts: this fault must be among those that fit, so it is no less than the least.
                Sentences.holds(fault + " behind " + t, x.couldBe(1) <= fault && x.couldBe(2) >= fault);
            }
        }
        EdgeEchoes x = Due.lineOf("d10 6;p10 5;e2 10;");
        x.see(4, 6000, true);
        could(x, "a cut at 1 or 2", 2, 2, 4);
        x.cut(1);
        could(x, "one that is whole: 2, 3, 4", 6, 4, 9);
        x.mend(1);
        for (int k = 2; k <= 6; k++) {
            Sentences.is("see " + k, x.see(4, 6000, true), k);
        }
        Sentences.is("6 at most", x.see(4, 6000, true), EdgeEchoes.FULL);
        EdgeEchoes bounds = Due.lineOf("d0 99;p1 2;");
        Sentences.is("behind 0", bounds.see(0, 0, true), EdgeEchoes.OUTSIDE);
        Sentences.is("behind 151", bounds.see(151, 0, true), EdgeEchoes.OUTSIDE);
        Sentences.is("less than 0", bounds.see(1, -1, true), EdgeEchoes.OUTSIDE);
        Sentences.is("more than 99000", bounds.see(1, 99001, true), EdgeEchoes.OUTSIDE);
        Sentences.is("behind 1, 99000", bounds.see(1, 99000, true), 1);
        could(bounds, "99000 behind 1", 2, 2, 3);
        bounds.see(1, 99000, false);
        could(bounds, "less than 99000 behind 1", 0, NONE, NONE);
    }

    private static void couldBe() {
        Sentences.says("COULD BE: of such faults (i twice, i the PLACE, and 1 more, if SHORT) by which all that is SEEN is so: "
            + "how many; the least; the greatest; NONE.");
        String text = LINES[1];
        int[][] rows = {{4, 9000}, {7, 6000}, {12, 3000}, {33, 5000}, {150, 4444}, {90, 100}};
        for (int first = 0; first < rows.length; first++) {
            EdgeEchoes x = Due.lineOf(text);
            x.cut(7);
            boolean[] fits = new boolean[18];
            java.util.Arrays.fill(fits, true);
            for (int k = 0; k < 3; k++) {
                int t = rows[(first + k) % 6][0];
                int v = rows[(first + k) % 6][1];
                boolean is = (first + k) % 2 == 0;
                x.see(t, v, is);
                int many = 0;
                int least = NONE;
                int greatest = NONE;
                for (int fault = 2; fault <= 17; fault++) {
                    if (fault / 2 != 7) {
                        fits[fault] &= voltsWith(text, fault, t, 7) >= v == is;
                        many += fits[fault] ? 1 : 0;
                        least = fits[fault] && least == NONE ? fault : least;
                        greatest = fits[fault] ? fault : greatest;
                    }
                }
                could(x, "row " + first + ", " + k, many, least, greatest);
            }
        }
        // A driver of the wire's ohms: 3000 at first, 6000 when a cut, 0 when a short has sent it back.
        EdgeEchoes y = Due.lineOf("d10 6;p10 5;e2 10;");
        could(y, "nothing seen", 8, 2, 9);
        y.see(4, 3000, true);
        could(y, "no short at 1, 2", 6, 2, 9);
        y.see(6, 3000, false);
        could(y, "a short at 3", 1, 7, 7);
        y.see(6, 3000, true);
        could(y, "nothing fits", 0, NONE, NONE);
    }

    private static void look() {
        Sentences.says("LOOK: behind how many TICKS (1 .. 60) VOLTS of CELL 0 tell these apart best: the greatest part that is "
            + "alike is least; of like ones the least; NONE: none parts them.");
        for (String text : new String[] {LINES[1], "d3 2;p38 8;p50 1;e2 26;", "d10 6;p10 4;e2 10;", "d10 6;p10 3;e2 10;"}) {
            int last = 2 * Due.lineOf(text).told(2) - 1;
            int best = NONE;
            int fewest = last - 1;
            for (int t = 1; t <= 60; t++) {
                java.util.Map<Integer, Integer> parts = new java.util.TreeMap<>();
                for (int fault = 2; fault <= last; fault++) {
                    parts.merge(voltsWith(text, fault, t), 1, Integer::sum);
                }
                int greatest = java.util.Collections.max(parts.values());
                if (greatest < fewest) {
                    fewest = greatest;
                    best = t;
                }
            }
            Sentences.is(text + " LOOK", Due.lineOf(text).look(), best);
        }
        // Of like ohms throughout: a cut or a short at i tells behind 2 times i ticks, for good, so later is better.
        EdgeEchoes x = Due.lineOf("d10 6;p10 9;p10 9;p10 9;p10 9;p10 9;p10 9;p10 9;p10 9;e2 10;");
        could(x, "142 of them", 142, 2, 143);
        Sentences.is("142 of them", x.look(), 60);
        x.see(58, 3001, false);
        x.see(62, 6000, true);
        could(x, "a cut at 30 or 31", 2, 60, 62);
        Sentences.is("behind 60", x.look(), 60);
        x.tear();
        x.see(60, 3001, false);
        x.see(64, 6000, true);
        could(x, "a cut at 31 or 32", 2, 62, 64);
        Sentences.is("not behind 62", x.look(), NONE);
        x.see(1, 0, false);
        could(x, "nothing fits", 0, NONE, NONE);
        Sentences.is("nothing to part", x.look(), NONE);
    }

    private static void noNoise() {
        Sentences.says("NO NOISE: odds of n TICKS (0 .. 60) without noise, each by q of a hundred (0 .. 100): a BILLION times q / "
            + "100 each (cut).");
        for (int q = 0; q <= 100; q++) {
            EdgeEchoes x = new EdgeEchoes();
            BigInteger odds = BigInteger.valueOf(1000000000);
            for (int n = 0; n <= 60; n++) {
                Sentences.is("noNoise(" + n + ", " + q + ")", x.noNoise(n, q), odds.intValueExact());
                odds = odds.multiply(BigInteger.valueOf(q)).divide(BigInteger.valueOf(100));
            }
        }
    }

    private static void book() {
        Sentences.says("THE BOOK (20 at most) tells how many EDGES GATES have: WRONG: the first that is otherwise now; NONE.");
        EdgeEchoes x = Due.lineOf("d0 5;p9 1;e2 9;g0 0 5;g3 0 5;");
        for (int k = 0; k < 20; k++) {
            Sentences.is("entry " + k, x.write(k % 2, k < 18 ? k % 2 : 2), k + 1);
        }
        Sentences.is("a twenty-first", x.write(0, 0), EdgeEchoes.FULL);
        Sentences.is("GATE 1 has 0", x.judge(), 1);
        x.tick(1);
        Sentences.is("GATE 0 has 0, GATE 1 has 1", x.judge(), 18);
        x.drive(true);
        x.tick(1);
        Sentences.is("GATE 0 has 1", x.judge(), 0);
        x.tear();
        x.write(0, 1);
        x.write(1, 2);
        Sentences.is("all as written", x.judge(), NONE);
    }

    private static int next(int seed) {
        return BigInteger.valueOf(seed).multiply(BigInteger.valueOf(1103515245)).add(BigInteger.valueOf(12345))
            .mod(BigInteger.ONE.shiftLeft(31)).intValueExact();
    }

    private static void seed() {
        Sentences.says("BY DRAWS: THE SEED (0 at first: each DRAW it becomes it times 1103515245 and 12345, left over by 2 to the "
            + "31; the DRAW of n is it / 65536, left over by n):");
        EdgeEchoes x = Due.lineOf("d1 1;p1 1;");
        Sentences.is("0 at first", x.seed(0), 0);
        x.drift(1);
        Sentences.is("12345", x.seed(12345), 12345);
        x.drift(1);
        // 12345 times 1103515245 and 12345 is 13622895712... : as whole numbers of any size have it.
        Sentences.is("behind 12345", x.seed(2147483647), next(12345));
        x.drift(1);
        Sentences.is("behind 2147483647", x.seed(0), 1043980748);
        // One draw is of 8, the second of N less 1: place by place as the seed tells.
        for (int cells = 2; cells <= 9; cells++) {
            for (int start = 0, threes = 0; threes < 12; start += 7919) {
                int one = next(start);
                if (one / 65536 % 8 == 3) {
                    threes++;
                    EdgeEchoes y = Due.lineOf("d1 1;p1 " + cells + ";");
                    y.seed(start);
                    y.drift(1);
                    Sentences.is("the place drawn of " + cells, y.place(next(one) / 65536 % (cells - 1) + 1), 1);
                    Sentences.is("the seed then", y.seed(0), next(one));
                }
            }
        }
    }

    private static void byDraws() {
        Sentences.says("n times: a DRAW of 8: on 0, 1 THE DRIVER is HIGH; on 2 LOW; on 3, if N is above 1, a DRAW of N less 1, "
            + "and 1: that PLACE is CUT, if it is WHOLE, else WHOLE; on the others nothing; then a TICK.");
        for (int run = 0; run < 60; run++) {
            String text = run % 5 == 0 ? "d0 5;p9 1;g3 0 5;" : run % 5 == 1 ? "d0 5;g3 0 5;" : "d4 5;p9 2;p20 3;e2 30;g0 4 3;";
            EdgeEchoes x = Due.lineOf(text);
            EdgeEchoes y = Due.lineOf(text);
            int seed = run * 35791394;
            x.seed(seed);
            x.brief(1);
            y.brief(1);
            Sentences.is("drift(9)", x.drift(9), 9);
            for (int k = 0; k < 9; k++) {
                seed = next(seed);
                int draw = seed / 65536 % 8;
                if (draw <= 2) {
                    y.drive(draw < 2);
                }
                if (draw == 3 && y.told(2) > 1) {
                    seed = next(seed);
                    int i = seed / 65536 % (y.told(2) - 1) + 1;
                    int turned = y.place(i) == 0 ? y.cut(i) : y.mend(i);
                    Sentences.holds("turned", turned >= 0);
                }
                y.tick(1);
            }
            Sentences.is("seed of run " + run, x.seed(0), seed);
            Sentences.is("HIGH of run " + run, x.told(7), y.told(7));
            Sentences.is("EDGES of run " + run, x.gate(0, 4), y.gate(0, 4));
            for (int i = 0; i < 5; i++) {
                Sentences.waves(x, "run " + run, i, y.cell(i, 1) - 1000000, y.cell(i, 2) - 1000000);
                Sentences.is("PLACE " + (i + 1) + " of run " + run, x.place(i + 1), y.place(i + 1));
            }
        }
    }

    private static final String TEN = "d10 6;p20 2;p40 2;e2 20;g0 0 4;g3 3 2;g2 1 3;";

    /** One deed of each kind, in the document's order, each of which changes something on the line above. */
    private static int deed(EdgeEchoes x, int k) {
        switch (k) {
            case 0: return x.tick(3);
            case 1: return x.drive(true);
            case 2: return x.cut(2);
            case 3: return x.brief(3);
            case 4: return x.mend(2);
            case 5: return x.piece(1, 70);
            case 6: return x.end(2, 30);
            case 7: return x.ohms(40);
            case 8: return x.quiet();
            default: return x.drift(5);
        }
    }

    private static String sectionTwo(EdgeEchoes x) {
        StringBuilder s = new StringBuilder();
        for (int what = 5; what <= 11; what++) {
            s.append(x.told(what)).append(' ');
        }
        for (int i = 0; i < 4; i++) {
            s.append(x.cell(i, 1)).append(' ').append(x.cell(i, 2)).append(' ').append(x.place(i + 1)).append(' ');
        }
        for (int k = 0; k < 3; k++) {
            s.append(x.wire(k, 0)).append(' ').append(x.gate(k, 3)).append(' ').append(x.gate(k, 4)).append(' ');
            // What a slow gate has counted shows behind one tick more, or two.
            s.append(x.sees(k, 1, 0)).append(x.sees(k, 2, 0)).append(' ');
        }
        return s.toString();
    }

    private static void noDeeds(EdgeEchoes x) {
        x.feed('x');
        x.line();
        x.fault();
        x.told(13);
        x.wire(0, 0);
        x.cell(0, 0);
        x.place(1);
        x.gate(0, 5);
        x.volts(0, 9, 1);
        x.rest(0);
        x.sees(0, 9, 1);
        x.noNoise(9, 9);
        x.see(9, 9, true);
        x.couldBe(0);
        x.look();
        x.write(0, 9);
        x.judge();
        x.tear();
        x.seed(9);
    }

    private static void undone() {
        Sentences.says("UNDONE: the latest deeds (tick(), drive(), cut(), brief(), mend(), piece(), end(), ohms(), quiet(), "
            + "drift()) since the text or IMAGE (12 at most are kept): all of section 2 is as ahead of them; THE SEED stays.");
        for (int n = 1; n <= 10; n++) {
            EdgeEchoes x = Due.lineOf(TEN);
            String[] ahead = new String[11];
            for (int k = 0; k < 10; k++) {
                ahead[k] = sectionTwo(x);
                Sentences.holds("deed " + k + " is done", deed(x, k) >= 0);
                Sentences.is("deeds", x.told(17), k + 1);
            }
            int seed = x.seed(0);
            x.seed(seed);
            x.undo(n);
            Sentences.holds("as ahead of the latest " + n, sectionTwo(x).equals(ahead[10 - n]));
            Sentences.is("THE SEED", x.seed(0), seed);
        }
        EdgeEchoes other = Due.lineOf(TEN);
        other.tick(7);
        noDeeds(other);
        Sentences.is("other calls are no deeds", other.told(17), 1);
        Sentences.is("undo(1)", other.undo(1), 0);
        Sentences.is("undoing is none", other.told(17), 0);
        EdgeEchoes many = Due.lineOf("d0 1;p1 1;");
        for (int k = 1; k <= 20; k++) {
            many.ohms(k);
        }
        Sentences.is("12 are kept", many.told(17), 12);
        Sentences.is("undo(12)", many.undo(12), 0);
        Sentences.is("as ahead of the twelfth", many.told(5), 8);
        Sentences.is("no thirteenth", many.undo(1), NOT);
        many.ohms(1);
        many.keep(0);
        Sentences.is("since the IMAGE kept", many.undo(1), NOT);
        many.ohms(2);
        many.goBack(0);
        Sentences.is("since the IMAGE gone back to", many.undo(1), NOT);
        many.ohms(3);
        Due.told(many, "d0 1;p1 1;");
        Sentences.is("since the text", many.undo(1), NOT);
    }

    private static void images() {
        Sentences.says("IMAGES 0, 1 keep all of section 2, THE SEED.");
        for (int first = 0; first <= 1; first++) {
            EdgeEchoes x = Due.lineOf(TEN);
            x.seed(11);
            for (int k = 0; k < 5; k++) {
                deed(x, k);
            }
            x.tick(2);
            x.keep(first);
            String one = sectionTwo(x);
            x.seed(22);
            for (int k = 5; k < 10; k++) {
                deed(x, k);
            }
            x.seed(22);
            x.keep(1 - first);
            String other = sectionTwo(x);
            x.drift(9);
            x.goBack(first);
            Sentences.holds("IMAGE " + first, sectionTwo(x).equals(one));
            Sentences.is("its SEED", x.seed(0), 11);
            x.drift(3);
            x.goBack(1 - first);
            Sentences.holds("IMAGE " + (1 - first), sectionTwo(x).equals(other));
            Sentences.is("its SEED", x.seed(0), 22);
        }
    }
}
