import java.util.Random;

/** Section 2: the line, a tick, gates. */
final class DocumentLine {
    private static final int NONE = EdgeEchoes.NONE;

    private DocumentLine() {
    }

    static void all() {
        cells();
        waves();
        places();
        tickMakesAllAnew();
        atAPlace();
        atTheDriver();
        atTheEnd();
        cutAndBounds();
        ticks();
        gatesAtFirst();
        plain();
        holds();
        slow();
        turned();
        edges();
        deeds();
        quiet();
    }

    private static void cells() {
        Sentences.says("THE LINE has N CELLS, 0 on, those of PIECE 0 first (N 0: no PIECES).");
        EdgeEchoes x = Sentences.high("d0 9;p10 2;p30 3;e2 30;");
        Sentences.is("N", x.told(2), 5);
        x.tick(3);
        // 9000 meets the thirty ohms at the third cell: half of it runs back, half more goes on.
        Sentences.waves(x, "PIECE 0's last", 1, 9000, 4500);
        Sentences.waves(x, "PIECE 1's first", 2, 13500, 0);
        EdgeEchoes none = Due.lineOf("d0 9;");
        Sentences.is("N without PIECES", none.told(2), 0);
        Sentences.is("PIECES", none.told(1), 0);
    }

    private static void waves() {
        Sentences.says("Each CELL has a wave that goes ON and one that comes BACK, in thousandths of a VOLT (0 at first);");
        EdgeEchoes x = Sentences.high("d10 6;p10 3;");
        for (int i = 0; i < 3; i++) {
            Sentences.waves(x, "at first", i, 0, 0);
        }
        x.tick(4);
        Sentences.waves(x, "3 VOLTS", 0, 3000, 0);
        Sentences.waves(x, "3 VOLTS", 2, 3000, 3000);
        Sentences.says("VOLTS of a CELL (in thousandths, too) are both together.");
        Sentences.is("VOLTS of 0", x.cell(0, 0), 1003000);
        Sentences.is("VOLTS of 2", x.cell(2, 0), 1006000);
        EdgeEchoes shorted = Sentences.high("d10 6;p10 1;e1 1;");
        shorted.tick(2);
        Sentences.is("3000 and -3000", shorted.cell(0, 0), 1000000);
        Sentences.says("S is V VOLTS, if THE DRIVER is HIGH (it is LOW at first), else 0.");
        EdgeEchoes y = Due.lineOf("d0 7;p10 1;e2 10;");
        int[] high = {0, 1, 1, 0, 1, 0};
        for (int k = 0; k < high.length; k++) {
            if (k > 0) {
                y.drive(high[k] == 1);
            }
            y.tick(1);
            Sentences.waves(y, "tick " + k, 0, 7000 * high[k], 0);
        }
    }

    private static void places() {
        Sentences.says("A PLACE i (1 .. N less 1) lies between CELLS i less 1 and i;");
        for (int i = 1; i <= 4; i++) {
            EdgeEchoes x = Sentences.high("d10 6;p10 5;e2 10;");
            Sentences.is("cut(" + i + ")", x.cut(i), 0);
            x.tick(9);
            for (int k = 0; k < 5; k++) {
                Sentences.waves(x, "cut at " + i, k, k < i ? 3000 : 0, k < i ? 3000 : 0);
            }
        }
        EdgeEchoes x = Due.lineOf("d10 6;p10 5;");
        Sentences.is("place(5)", x.place(5), NONE);
        Sentences.is("place(4)", x.place(4), 0);
        Sentences.says("it is WHOLE (at first), CUT or SHORT.");
        for (int i = 1; i <= 4; i++) {
            Sentences.is("place(" + i + ") at first", x.place(i), 0);
        }
        x.cut(2);
        Sentences.is("CUT", x.place(2), 1);
        x.brief(2);
        Sentences.is("SHORT", x.place(2), 2);
        x.mend(2);
        Sentences.is("WHOLE", x.place(2), 0);
    }

    private static void tickMakesAllAnew() {
        Sentences.says("A TICK makes all waves anew from those that were:");
        EdgeEchoes x = Sentences.high("d10 6;p10 4;");
        for (int t = 1; t <= 8; t++) {
            x.tick(1);
            for (int i = 0; i < 4; i++) {
                Sentences.waves(x, "tick " + t, i, t > i ? 3000 : 0, t > 7 - i ? 3000 : 0);
            }
        }
        // A single edge up and down runs one cell a tick, there and back, and none is left behind it.
        EdgeEchoes once = Sentences.high("d10 6;p10 4;");
        once.tick(1);
        once.drive(false);
        for (int t = 1; t <= 9; t++) {
            for (int i = 0; i < 4; i++) {
                Sentences.waves(once, "once, tick " + t, i, t == i + 1 ? 3000 : 0, t == 8 - i ? 3000 : 0);
            }
            once.tick(1);
        }
    }

    /** What a tick reads, taken through the public calls ahead of it. */
    private static final class Before {
        final int cells;
        final long[] on = new long[72];
        final long[] back = new long[72];
        final int[] ohms = new int[72];
        final int[] place = new int[72];
        final long driver;
        final long source;
        final int kind;
        final long end;

        Before(EdgeEchoes x) {
            cells = x.told(2);
            for (int i = 0; i < cells; i++) {
                on[i] = x.cell(i, 1) - 1000000;
                back[i] = x.cell(i, 2) - 1000000;
                place[i] = i > 0 ? x.place(i) : 0;
            }
            for (int p = 0; p < x.told(1); p++) {
                for (int i = 0; i < x.wire(p, 1); i++) {
                    ohms[x.wire(p, 2) + i] = x.wire(p, 0);
                }
            }
            driver = x.told(5);
            source = x.told(7) * 1000L * x.told(6);
            kind = x.told(8);
            end = x.told(9);
        }
    }

    private static long cut(long amount, long by) {
        return Math.max(-400000, Math.min(400000, amount / by));
    }

    private interface Check {
        void of(EdgeEchoes x, Before was, String when);
    }

    /** Each tick of many on lines where everything differs, with deeds between; each object for less than 512 calls. */
    private static void onManyLines(Check check) {
        Random random = new Random(33);
        for (int round = 0; round < 60; round++) {
            EdgeEchoes x = new EdgeEchoes();
            StringBuilder text = new StringBuilder("d" + random.nextInt(100) + " " + (1 + random.nextInt(99)) + ";");
            for (int p = 0; p < 3; p++) {
                text.append("p").append(1 + random.nextInt(99)).append(" ").append(1 + random.nextInt(2)).append(";");
            }
            text.append("e").append(round % 3).append(" ").append(1 + random.nextInt(99)).append(";");
            Due.told(x, text.toString());
            for (int t = 0; t < 5; t++) {
                x.drive(random.nextInt(3) > 0);
                x.tick(1 + random.nextInt(9));
                int i = 1 + random.nextInt(5);
                int turned = random.nextInt(3) == 0 ? x.cut(i) : random.nextInt(3) == 0 ? x.brief(i) : x.mend(i);
                Before was = new Before(x);
                x.tick(1);
                check.of(x, was, text + " round " + t + " (" + turned + ")");
            }
        }
    }

    private static void atAPlace() {
        Sentences.says("at a PLACE, a being ON of the CELL ahead of it, of Y OHMS, b being BACK of the CELL behind it, of Z "
            + "OHMS: BACK of the CELL ahead becomes (a times (Z less Y), and 2 times Y times b) by (Y and Z),");
        EdgeEchoes x = Sentences.high("d10 6;p20 2;p40 1;e2 20;");
        x.tick(3);
        // 4000 times 20 by 60.
        Sentences.waves(x, "a alone", 1, 4000, 1333);
        x.tick(2);
        // b is 5333 times -20 by 60, which is -1777, a is 4000: (4000 times 20, and 40 times -1777) by 60 is 148.6.
        Sentences.is("a and b", x.cell(1, 2), 1000148);
        onManyLines((y, was, when) -> {
            for (int i = 1; i < was.cells; i++) {
                long a = was.on[i - 1];
                long b = was.back[i];
                long ahead = was.ohms[i - 1];
                long behind = was.ohms[i];
                if (was.place[i] == 0) {
                    Sentences.is(when + ": BACK of " + (i - 1), y.cell(i - 1, 2) - 1000000,
                        cut(a * (behind - ahead) + 2 * ahead * b, ahead + behind));
                }
            }
        });
        Sentences.says("ON of the CELL behind (2 times Z times a, and b times (Y less Z)) by (Y and Z), if it is WHOLE;");
        // (80 times 4000, and -1777 times -20) by 60 is 5925.6.
        Sentences.is("a and b", x.cell(2, 1), 1005925);
        onManyLines((y, was, when) -> {
            for (int i = 1; i < was.cells; i++) {
                long ahead = was.ohms[i - 1];
                long behind = was.ohms[i];
                if (was.place[i] == 0) {
                    Sentences.is(when + ": ON of " + i, y.cell(i, 1) - 1000000,
                        cut(2 * behind * was.on[i - 1] + was.back[i] * (ahead - behind), ahead + behind));
                }
            }
        });
        Sentences.says("a and b, if it is CUT;");
        EdgeEchoes cut = Sentences.high("d10 6;p10 2;");
        cut.tick(4);
        cut.drive(false);
        cut.tick(1);
        cut.cut(1);
        cut.tick(1);
        Sentences.waves(cut, "0 from the driver", 0, 0, 0);
        Sentences.waves(cut, "3000 from the end", 1, 3000, 3000);
        onManyLines((y, was, when) -> atTurned(y, was, when, 1, 1));
        Sentences.says("-a and -b, if it is SHORT.");
        EdgeEchoes shorted = Sentences.high("d10 6;p10 2;");
        shorted.tick(4);
        shorted.brief(1);
        shorted.tick(1);
        Sentences.waves(shorted, "3000 from the driver", 0, 3000, -3000);
        Sentences.waves(shorted, "3000 from the end", 1, -3000, 3000);
        onManyLines((y, was, when) -> atTurned(y, was, when, 2, -1));
    }

    private static void atTurned(EdgeEchoes y, Before was, String when, int state, int sign) {
        for (int i = 1; i < was.cells; i++) {
            if (was.place[i] == state) {
                Sentences.waves(y, when, i - 1, y.cell(i - 1, 1) - 1000000, (int) (sign * was.on[i - 1]));
                Sentences.waves(y, when, i, (int) (sign * was.back[i]), y.cell(i, 2) - 1000000);
            }
        }
    }

    private static void atTheDriver() {
        Sentences.says("At THE DRIVER: ON of CELL 0 becomes (Z times S, and (R less Z) times b) by (R and Z), b being BACK of "
            + "CELL 0, of Z OHMS.");
        EdgeEchoes x = Sentences.high("d30 6;p10 1;");
        x.tick(1);
        Sentences.waves(x, "a quarter", 0, 1500, 0);
        x.tick(2);
        // (10 times 6000, and 20 times 1500) by 40.
        Sentences.waves(x, "and half of what came back", 0, 2250, 1500);
        x.drive(false);
        x.tick(1);
        // 20 times 1500 by 40: LOW, it throws back all the same.
        Sentences.waves(x, "LOW", 0, 750, 2250);
        onManyLines((y, was, when) -> Sentences.is(when + ": ON of 0", y.cell(0, 1) - 1000000,
            cut(was.ohms[0] * was.source + (was.driver - was.ohms[0]) * was.back[0], was.driver + was.ohms[0])));
    }

    private static void atTheEnd() {
        Sentences.says("At THE END: BACK of the last CELL becomes a (open), -a (short), a times (R less Z) by (R and Z), a "
            + "being its ON.");
        EdgeEchoes x = Sentences.high("d10 6;p10 1;e2 5;");
        x.tick(2);
        Sentences.waves(x, "of 5 OHMS", 0, 3000, -1000);
        EdgeEchoes far = Sentences.high("d10 6;p10 9;p10 9;p10 9;p10 9;p10 9;p10 9;p10 9;p10 9;e2 5;");
        far.tick(50);
        far.tick(23);
        Sentences.waves(far, "of 5 OHMS behind 72 CELLS", 71, 3000, -1000);
        onManyLines((y, was, when) -> {
            long a = was.on[was.cells - 1];
            long z = was.ohms[was.cells - 1];
            long due = was.kind == 0 ? a : was.kind == 1 ? -a : cut(a * (was.end - z), was.end + z);
            Sentences.is(when + ": BACK of the last", y.cell(was.cells - 1, 2) - 1000000, due);
        });
    }

    private static void cutAndBounds() {
        Sentences.says("All cut;");
        EdgeEchoes driver = Sentences.high("d2 1;p1 1;e1 1;");
        driver.tick(3);
        // (1 times 1000, and 1 times -333) by 3 is 222.3.
        Sentences.waves(driver, "the driver", 0, 222, -333);
        driver.drive(false);
        driver.tick(1);
        // -333 by 3, and the end turns 222 round.
        Sentences.waves(driver, "LOW", 0, -111, -222);
        EdgeEchoes place = Sentences.high("d0 1;p2 1;p1 1;e2 1;");
        place.tick(2);
        // 1000 times -1 by 3 is -333.3, 2 times 1000 by 3 is 666.6.
        Sentences.waves(place, "a place", 0, 1000, -333);
        Sentences.waves(place, "a place", 1, 666, 0);
        EdgeEchoes end = Sentences.high("d0 1;p2 1;e2 1;");
        end.tick(2);
        Sentences.waves(end, "the end", 0, 1000, -333);
        Sentences.says("a wave beyond 400000 either way is 400000 that way.");
        // Each round of two ticks adds 99000.
        EdgeEchoes x = Sentences.high("d0 99;p1 1;e1 1;");
        x.tick(8);
        Sentences.waves(x, "four rounds", 0, 396000, -396000);
        x.tick(1);
        Sentences.waves(x, "495000 is 400000", 0, 400000, -396000);
        x.tick(1);
        Sentences.waves(x, "both", 0, 400000, -400000);
        // A second piece of 99 ohms: 198 of a hundred go on, and of what runs into it the other way 98 turn round.
        EdgeEchoes on = Sentences.high("d0 99;p1 1;p99 1;e2 99;");
        on.brief(1);
        on.tick(8);
        on.mend(1);
        on.tick(1);
        Sentences.waves(on, "784080 is 400000", 1, 400000, 0);
        EdgeEchoes back = Sentences.high("d0 99;p1 1;p1 1;e1 1;");
        back.tick(16);
        back.piece(0, 99);
        back.tick(1);
        // (396000 times -98, and 198 times -396000) by 100 is -1172160.
        Sentences.is("-1172160 is -400000", back.cell(0, 2), 600000);
        EdgeEchoes below = Sentences.high("d0 99;p1 1;p99 1;e2 99;");
        below.brief(1);
        below.tick(8);
        below.drive(false);
        below.cut(1);
        below.tick(2);
        below.mend(1);
        below.tick(1);
        Sentences.waves(below, "-784080 is -400000", 1, -400000, 0);
    }

    private static void ticks() {
        Sentences.says("TICKS are one more.");
        for (String text : new String[] {"d1 1;", "d1 1;p1 1;", "d1 1;p1 9;p2 9;p3 9;"}) {
            EdgeEchoes x = Due.lineOf(text);
            for (int k = 1; k <= 9; k++) {
                x.tick(1);
                Sentences.is("TICKS", x.told(10), k);
            }
        }
    }

    /** One cell of 10 ohms by a driver of 0: VOLTS are S behind each tick, or S times 10 by (10 and R). */
    private static EdgeEchoes still(int volts, String gates) {
        return Sentences.high("d0 " + volts + ";p10 1;e2 10;" + gates);
    }

    private static void gatesAtFirst() {
        Sentences.says("GATES see a 1 or a 0 (0 at first), behind each TICK anew, by VOLTS v of the CELL:");
        EdgeEchoes x = Sentences.high("d0 5;p10 3;e2 10;g0 2 5;g0 0 5;");
        Sentences.is("at first", x.told(11), 0);
        int[] due = {2, 2, 3};
        for (int set : due) {
            x.tick(1);
            Sentences.is("as it comes by", x.told(11), set);
        }
        x.drive(false);
        x.tick(1);
        Sentences.is("as it goes", x.told(11), 1);
        x.tick(2);
        Sentences.is("as it is gone", x.told(11), 0);
    }

    private static void sees(EdgeEchoes x, int volts, int due) {
        x.tick(1);
        Sentences.is("VOLTS", x.cell(0, 0), 1000000 + volts);
        Sentences.is("what it sees by " + volts, x.gate(0, 3), due);
    }

    private static void plain() {
        Sentences.says("KIND 0 (plain): 1, if v is H or more.");
        EdgeEchoes x = still(5, "g0 0 5;");
        sees(x, 5000, 1);
        x.ohms(1);
        sees(x, 4545, 0);
        x.ohms(0);
        sees(x, 5000, 1);
        EdgeEchoes more = still(6, "g0 0 5;");
        sees(more, 6000, 1);
        // 1999 by 2 and 1: one thousandth below H.
        EdgeEchoes below = Sentences.high("d51 2;p50 1;e2 51;g0 0 1;");
        below.tick(1);
        sees(below, 999, 0);
    }

    private static void holds() {
        Sentences.says("1 (one that holds): 1, if v is H or more, 0, if it is below half of H, else what it saw.");
        EdgeEchoes x = still(10, "g1 0 10;");
        sees(x, 10000, 1);
        x.ohms(1);
        sees(x, 9090, 1);
        x.ohms(10);
        sees(x, 5000, 1);
        x.ohms(11);
        sees(x, 4761, 0);
        x.ohms(10);
        sees(x, 5000, 0);
        x.ohms(1);
        sees(x, 9090, 0);
        x.ohms(0);
        sees(x, 10000, 1);
        // Half of 5 is 2500 thousandths.
        EdgeEchoes odd = still(5, "g1 0 5;");
        sees(odd, 5000, 1);
        odd.ohms(10);
        sees(odd, 2500, 1);
        odd.ohms(11);
        sees(odd, 2380, 0);
    }

    private static void slow() {
        Sentences.says("2 (slow): as it saw, till v has been H or more, or below H, otherwise than it saw, behind three TICKS "
            + "on end: then that.");
        EdgeEchoes x = still(5, "g2 0 5;");
        sees(x, 5000, 0);
        sees(x, 5000, 0);
        x.ohms(1);
        sees(x, 4545, 0);
        x.ohms(0);
        sees(x, 5000, 0);
        sees(x, 5000, 0);
        sees(x, 5000, 1);
        sees(x, 5000, 1);
        x.ohms(1);
        sees(x, 4545, 1);
        sees(x, 4545, 1);
        x.ohms(0);
        sees(x, 5000, 1);
        x.ohms(1);
        sees(x, 4545, 1);
        sees(x, 4545, 1);
        sees(x, 4545, 0);
        // Three ticks more, from the one behind the change on.
        x.ohms(0);
        sees(x, 5000, 0);
        sees(x, 5000, 0);
        sees(x, 5000, 1);
        x.ohms(1);
        sees(x, 4545, 1);
        sees(x, 4545, 1);
        sees(x, 4545, 0);
        sees(x, 4545, 0);
    }

    private static void turned() {
        Sentences.says("3 (turned): 1, if v is below H (0 at first all the same).");
        EdgeEchoes x = still(5, "g3 0 5;");
        Sentences.is("at first", x.gate(0, 3), 0);
        sees(x, 5000, 0);
        x.ohms(1);
        sees(x, 4545, 1);
        x.drive(false);
        sees(x, 0, 1);
        x.drive(true);
        x.ohms(0);
        sees(x, 5000, 0);
        EdgeEchoes below = Sentences.high("d51 2;p50 1;e2 51;g3 0 1;");
        below.tick(1);
        sees(below, 999, 1);
    }

    private static void edges() {
        Sentences.says("EDGES of a GATE: how often what it sees changed (9999 at most).");
        EdgeEchoes x = Due.lineOf("d0 5;p10 1;e2 10;g0 0 5;g3 0 5;");
        boolean[] high = {false, true, true, false, false, true};
        int[] plain = {0, 1, 1, 2, 2, 3};
        int[] turned = {1, 2, 2, 3, 3, 4};
        for (int k = 0; k < high.length; k++) {
            x.drive(high[k]);
            x.tick(1);
            Sentences.is("plain, tick " + k, x.gate(0, 4), plain[k]);
            Sentences.is("turned, tick " + k, x.gate(1, 4), turned[k]);
        }
        // 6, 12, 6, 0 VOLTS for ever: two edges in each four ticks.
        EdgeEchoes swing = Sentences.high("d0 6;p9 1;g0 0 7;");
        for (int k = 0; k < 400; k++) {
            swing.tick(50);
        }
        Sentences.is("behind 20000", swing.gate(0, 4), 9999);
        swing.undo(1);
        Sentences.is("behind 19950", swing.gate(0, 4), 9975);
        swing.tick(48);
        Sentences.is("behind 19998", swing.gate(0, 4), 9999);
        swing.tick(1);
        Sentences.is("behind 19999", swing.gate(0, 4), 9999);
    }

    private static void deeds() {
        Sentences.says("HIGH, LOW: THE DRIVER is so from the next TICK on.");
        EdgeEchoes x = Due.lineOf("d0 5;p10 1;e2 10;");
        x.drive(true);
        Sentences.waves(x, "HIGH, no tick yet", 0, 0, 0);
        x.tick(1);
        Sentences.waves(x, "HIGH", 0, 5000, 0);
        x.drive(false);
        Sentences.waves(x, "LOW, no tick yet", 0, 5000, 0);
        x.tick(1);
        Sentences.waves(x, "LOW", 0, 0, 0);
        Sentences.says("CUT, SHORT, MENDED: a PLACE.");
        EdgeEchoes y = Due.lineOf("d0 5;p10 3;");
        y.cut(1);
        y.brief(2);
        Sentences.is("CUT", y.place(1), 1);
        Sentences.is("SHORT", y.place(2), 2);
        y.mend(1);
        Sentences.is("MENDED", y.place(1), 0);
        Sentences.is("the other stays", y.place(2), 2);
        Sentences.says("ANOTHER: a PIECE is of other OHMS; THE END is another; THE DRIVER's R is another.");
        EdgeEchoes z = Sentences.high("d10 6;p10 2;p20 1;e2 20;");
        z.tick(4);
        z.piece(1, 10);
        Sentences.is("OHMS", z.wire(1, 0), 10);
        Sentences.is("the other PIECE's", z.wire(0, 0), 10);
        z.end(1, 1);
        Sentences.is("KIND", z.told(8), 1);
        z.ohms(0);
        Sentences.is("R", z.told(5), 0);
        Sentences.waves(z, "no tick yet", 1, 3000, 1000);
        Sentences.waves(z, "no tick yet", 2, 4000, 0);
        z.tick(1);
        // 6000 by a driver of 0, less the 1000 that came back; 3000 goes on whole; the end turns 4000 round.
        Sentences.waves(z, "the driver", 0, 5000, 1000);
        Sentences.waves(z, "the pieces", 1, 3000, 0);
        Sentences.waves(z, "the end", 2, 3000, -4000);
    }

    private static void quiet() {
        Sentences.says("QUIET: all waves are 0, GATES see 0, EDGES are 0.");
        EdgeEchoes x = Sentences.high("d10 6;p10 3;p30 2;e2 7;g0 0 1;g1 4 1;g2 2 1;g3 1 99;");
        x.cut(4);
        x.tick(20);
        Sentences.is("seen", x.told(11), 1 + 4 + 8);
        x.quiet();
        for (int i = 0; i < 5; i++) {
            Sentences.waves(x, "quiet", i, 0, 0);
        }
        Sentences.is("sees", x.told(11), 0);
        for (int g = 0; g < 4; g++) {
            Sentences.is("EDGES of " + g, x.gate(g, 4), 0);
        }
        Sentences.is("THE DRIVER stays", x.told(7), 1);
        Sentences.is("TICKS stay", x.told(10), 20);
        Sentences.is("a PLACE stays", x.place(4), 1);
    }
}
