import java.math.BigInteger;
import java.util.List;

/** Every boundary that section 3 and promises 21 to 24 name of what is tried: volts, rest, sees, no noise. */
public final class BoundsTriedTest {
    private static final int UNKNOWN = EdgeEchoes.UNKNOWN, OUTSIDE = EdgeEchoes.OUTSIDE;
    private static final int SWING = 6000;

    public static void main(String[] args) {
        voltsRefusals();
        voltsBehind0And200();
        voltsWithoutSuchACell();
        peakAndLeastFrom0ToN();
        restRefusals();
        restWithoutSuchACell();
        restFrom0To200();
        restOf20And21();
        restBehindAllLaterOnes();
        seesRefusals();
        seesBehind0And200();
        noNoiseRefusals();
        noNoiseAtItsBounds();
        nothingChangesByIt();
        Due.end();
    }

    /** volts: "of a CELL (0 .. 71)", "n TICKS (0 .. 200)", "what 0 .. 2": "OUTSIDE." */
    private static void voltsRefusals() {
        for (int i : Twins.beyond(0, 71)) {
            Twins.refused(Twins.ALL, "volts(" + i + ", 0, 0)", x -> x.volts(i, 0, 0), OUTSIDE);
            Twins.refused(Twins.ALL, "volts(" + i + ", 201, 3)", x -> x.volts(i, 201, 3), OUTSIDE);
        }
        for (int n : Twins.beyond(0, 200)) {
            for (int what = 0; what <= 2; what++) {
                int which = what;
                Twins.refused(Twins.ALL, "volts(0, " + n + ", " + what + ")", x -> x.volts(0, n, which), OUTSIDE);
                Twins.refused(Twins.ALL, "volts(71, " + n + ", " + what + ")", x -> x.volts(71, n, which), OUTSIDE);
            }
        }
        for (int what : Twins.beyond(0, 2)) {
            Twins.refused(Twins.ALL, "volts(0, 0, " + what + ")", x -> x.volts(0, 0, what), OUTSIDE);
            Twins.refused(Twins.ALL, "volts(71, 200, " + what + ")", x -> x.volts(71, 200, what), OUTSIDE);
        }
    }

    /** A driver of 0 ohms on one open cell: S, 2 times S, S, 0, and so on for ever. */
    private static EdgeEchoes swing() {
        EdgeEchoes x = Due.lineOf("d0 6;p9 1;g0 0 7;g3 0 7;");
        x.drive(true);
        return x;
    }

    private static int swingBehind(int n) {
        return new int[] {0, SWING, 2 * SWING, SWING}[n % 4];
    }

    private static void voltsBehind0And200() {
        EdgeEchoes x = swing();
        for (int n : new int[] {0, 1, 2, 3, 4, 197, 198, 199, 200}) {
            Due.is("VOLTS behind " + n, x.volts(0, n, 0), 1000000 + swingBehind(n));
        }
        for (int k = 1; k <= 4; k++) {
            x.tick(1);
            Due.is("VOLTS behind 0 at " + k, x.volts(0, 0, 0), x.cell(0, 0));
            Due.is("VOLTS behind 200 at " + k, x.volts(0, 200, 0), 1000000 + swingBehind(k));
            Due.is("VOLTS behind 199 at " + k, x.volts(0, 199, 0), 1000000 + swingBehind(k + 3));
        }
        EdgeEchoes far = Twins.LARGEST.made();
        for (int i = 0; i <= 71; i++) {
            Due.is("VOLTS of " + i + " behind 0", far.volts(i, 0, 0), far.cell(i, 0));
        }
    }

    /** A CELL that there is not has 0 VOLTS, "and 1000000". */
    private static void voltsWithoutSuchACell() {
        for (Twins.Stand stand : Twins.ALL) {
            EdgeEchoes x = stand.made();
            int n = x.told(2);
            for (int k = 0; k < 6 && n <= 71; k++) {
                Due.is(stand.name + ": behind the last", x.volts(n, k % 2 * 200, k / 2), 1000000);
                Due.is(stand.name + ": at 71", x.volts(71, k % 2 * 200, k / 2), 1000000);
            }
        }
    }

    /** "PEAK, LEAST: the greatest, the least of these behind 0 to n TICKS" */
    private static void peakAndLeastFrom0ToN() {
        EdgeEchoes x = swing();
        int[] peak = {0, SWING, 2 * SWING, 2 * SWING, 2 * SWING};
        for (int n = 0; n <= 4; n++) {
            Due.is("PEAK to " + n, x.volts(0, n, 1), 1000000 + peak[n]);
            Due.is("LEAST to " + n, x.volts(0, n, 2), 1000000);
        }
        x.tick(2);
        // Now it is at its greatest: 12000, then 6000, 0, 6000.
        int[] least = {2 * SWING, SWING, 0, 0, 0};
        for (int n = 0; n <= 4; n++) {
            Due.is("LEAST from the top to " + n, x.volts(0, n, 2), 1000000 + least[n]);
            Due.is("PEAK from the top to " + n, x.volts(0, n, 1), 1000000 + 2 * SWING);
        }
        // An edge that comes to the gate's cell behind 200 ticks, and one that comes behind 201.
        EdgeEchoes late = Due.lineOf("d90 20;p10 9;p10 9;p10 9;p10 9;p10 9;p10 9;p10 9;p10 9;");
        late.drive(true);
        Due.is("PEAK behind 199", late.volts(55, 199, 1), 1004000);
        Due.is("PEAK behind 200", late.volts(55, 200, 1), 1005600);
        Due.is("PEAK behind 201 is not tried", late.volts(56, 200, 1), 1004000);
        // Below 0, with nothing above.
        EdgeEchoes below = Due.lineOf("d99 1;p1 1;e1 1;");
        below.drive(true);
        Due.is("LEAST below 0", below.volts(0, 3, 2), 999990);
        below.tick(3);
        Due.is("PEAK below 0", below.volts(0, 0, 1), 999990);
    }

    /** rest: "(0 .. 71; ..). OUTSIDE." */
    private static void restRefusals() {
        for (int i : Twins.beyond(0, 71)) {
            Twins.refused(Twins.ALL, "rest(" + i + ")", x -> x.rest(i), OUTSIDE);
        }
    }

    /** rest: "0 without such a CELL" */
    private static void restWithoutSuchACell() {
        for (Twins.Stand stand : Twins.ALL) {
            EdgeEchoes x = stand.made();
            for (int i = x.told(2); i <= 71; i++) {
                Due.is(stand.name + ": rest(" + i + ")", x.rest(i), 0);
            }
        }
    }

    private static void restFrom0To200() {
        EdgeEchoes x = swing();
        // Behind 200 it is 0, behind 199 it is not.
        Due.is("never at rest: 200", x.rest(0), 200);
        EdgeEchoes still = Due.lineOf("d10 6;p10 4;");
        Due.is("at rest from the first: 0", still.rest(0), 0);
        still.drive(true);
        Due.is("there and back: 8", still.rest(0), 8);
        still.tick(7);
        Due.is("one tick ahead of it: 1", still.rest(0), 1);
        still.tick(1);
        Due.is("at rest with volts: 0", still.rest(0), 0);
        Due.is("these", still.cell(0, 0), 1006000);
        still.drive(false);
        Due.is("not any more: 8", still.rest(0), 8);
        // The last cell of 72.
        EdgeEchoes far = Due.lineOf("d10 6;p10 9;p10 9;p10 9;p10 9;p10 9;p10 9;p10 9;p10 9;");
        far.drive(true);
        Due.is("rest(71)", far.rest(71), 73);
        Due.is("rest(0)", far.rest(0), 144);
        far.tick(50);
        Due.is("rest(71) from 50", far.rest(71), 23);
    }

    /** "no more than 20 thousandths from those behind 200", above and below. */
    private static void restOf20And21() {
        echo("d60 1;p60 2;e2 65;", 20, 1);
        echo("d57 1;p57 2;e2 62;", 21, 4);
        echo("d50 2;p50 2;e2 48;", -20, 1);
        int[] found = echoOf(-21);
        echo("d" + found[0] + " " + found[1] + ";p" + found[0] + " 2;e2 " + found[2] + ";", -21, 4);
    }

    /** A driver of the wire's ohms: one echo comes to the first cell behind 4 ticks, and all is at rest. */
    private static void echo(String text, int echo, int rest) {
        EdgeEchoes x = Due.lineOf(text);
        x.drive(true);
        Due.is("echo of " + text, x.volts(0, 200, 0) - x.volts(0, 3, 0), echo);
        Due.is("rest(0) of " + text, x.rest(0), rest);
    }

    private static int[] echoOf(int want) {
        for (int z = 1; z <= 99; z++) {
            for (int v = 1; v <= 9; v++) {
                for (int r = 1; r <= 99; r++) {
                    if (v * 1000 / 2 * (r - z) / (r + z) == want) {
                        return new int[] {z, v, r};
                    }
                }
            }
        }
        return new int[] {1, 1, 1};
    }

    /** "(and behind all later ones up to 200)": a moment's rest on the way does not count. */
    private static void restBehindAllLaterOnes() {
        EdgeEchoes x = Due.lineOf("d10 6;p10 1;e2 10;");
        x.drive(true);
        x.tick(1);
        Due.is("3 volts", x.cell(0, 0), 1003000);
        x.tick(1);
        Due.is("at rest", x.rest(0), 0);
        // The driver fell for one tick: 3 volts at cell 3 now and behind 1, none behind 2, 3 again behind 3 and on.
        EdgeEchoes y = Due.lineOf("d10 6;p10 4;e2 10;");
        y.drive(true);
        y.tick(4);
        y.drive(false);
        y.tick(1);
        y.drive(true);
        y.tick(1);
        Due.is("3 volts at cell 3", y.cell(3, 0), 1003000);
        Due.is("behind 1", y.volts(3, 1, 0), 1003000);
        Due.is("behind 2", y.volts(3, 2, 0), 1000000);
        Due.is("behind 3", y.volts(3, 3, 0), 1003000);
        Due.is("rest behind the last of them", y.rest(3), 3);
    }

    /** sees: "UNKNOWN, OUTSIDE." */
    private static void seesRefusals() {
        for (int g : Twins.beyond(0, 5)) {
            Twins.refused(Twins.ALL, "sees(" + g + ", 0, 0)", x -> x.sees(g, 0, 0), UNKNOWN);
            Twins.refused(Twins.ALL, "sees(" + g + ", 201, 2)", x -> x.sees(g, 201, 2), UNKNOWN);
            Twins.refused(Twins.ALL, "sees(" + g + ", -1, -1)", x -> x.sees(g, -1, -1), UNKNOWN);
        }
        Twins.refused(Twins.WITHOUT_LINE, "sees(0, 0, 0)", x -> x.sees(0, 0, 0), UNKNOWN);
        Twins.refused(Twins.WITHOUT_LINE, "sees(0, 201, 0)", x -> x.sees(0, 201, 0), UNKNOWN);
        Twins.refused(List.of(Twins.NO_CELLS, Twins.ONE_CELL), "sees(2, 0, 0)", x -> x.sees(2, 0, 0), UNKNOWN);
        Twins.refused(Twins.BUSY, "sees(4, 0, 0)", x -> x.sees(4, 0, 0), UNKNOWN);
        for (int n : Twins.beyond(0, 200)) {
            Twins.refused(Twins.WITH_LINE, "sees(1, " + n + ", 0)", x -> x.sees(1, n, 0), OUTSIDE);
            Twins.refused(Twins.WITH_LINE, "sees(1, " + n + ", 1)", x -> x.sees(1, n, 1), OUTSIDE);
        }
        for (int what : Twins.beyond(0, 1)) {
            Twins.refused(Twins.WITH_LINE, "sees(1, 0, " + what + ")", x -> x.sees(1, 0, what), OUTSIDE);
            Twins.refused(Twins.LARGEST, "sees(5, 200, " + what + ")", x -> x.sees(5, 200, what), OUTSIDE);
        }
    }

    private static void seesBehind0And200() {
        EdgeEchoes x = swing();
        x.tick(2);
        Due.is("it sees 1 now", x.sees(0, 0, 0), 1);
        Due.is("no EDGES more behind 0", x.sees(0, 0, 1), 0);
        Due.is("0 behind 1", x.sees(0, 1, 0), 0);
        Due.is("one EDGE more behind 1", x.sees(0, 1, 1), 1);
        Due.is("0 behind 199", x.sees(0, 199, 0), 0);
        Due.is("EDGES more behind 199", x.sees(0, 199, 1), 99);
        Due.is("1 behind 200", x.sees(0, 200, 0), 1);
        Due.is("EDGES more behind 200", x.sees(0, 200, 1), 100);
        Due.is("turned: 0 behind 200", x.sees(1, 200, 0), 0);
        EdgeEchoes late = Due.lineOf("d90 20;p10 9;p10 9;p10 9;p10 9;p10 9;p10 9;p10 9;p10 9;g0 55 5;g0 56 5;");
        late.drive(true);
        Due.is("0 behind 199 far off", late.sees(0, 199, 0), 0);
        Due.is("1 behind 200 far off", late.sees(0, 200, 0), 1);
        Due.is("0 behind 200 a cell on", late.sees(1, 200, 0), 0);
        EdgeEchoes six = Twins.LARGEST.made();
        Due.is("the last gate", six.sees(5, 0, 0), six.gate(5, 3));
    }

    /** noNoise: "n TICKS (0 .. 60)", "q of a hundred (0 .. 100)": "OUTSIDE." */
    private static void noNoiseRefusals() {
        for (int n : Twins.beyond(0, 60)) {
            Twins.refused(Twins.ALL, "noNoise(" + n + ", 50)", x -> x.noNoise(n, 50), OUTSIDE);
            Twins.refused(Twins.ALL, "noNoise(" + n + ", 101)", x -> x.noNoise(n, 101), OUTSIDE);
        }
        for (int q : Twins.beyond(0, 100)) {
            Twins.refused(Twins.ALL, "noNoise(0, " + q + ")", x -> x.noNoise(0, q), OUTSIDE);
            Twins.refused(Twins.ALL, "noNoise(60, " + q + ")", x -> x.noNoise(60, q), OUTSIDE);
        }
    }

    /** "a BILLION times q / 100 each (cut)", with or without a line. */
    private static void noNoiseAtItsBounds() {
        for (Twins.Stand stand : Twins.ALL) {
            EdgeEchoes x = stand.made();
            Due.is(stand.name + ": noNoise(0, 0)", x.noNoise(0, 0), 1000000000);
            Due.is(stand.name + ": noNoise(0, 100)", x.noNoise(0, 100), 1000000000);
            Due.is(stand.name + ": noNoise(1, 0)", x.noNoise(1, 0), 0);
            Due.is(stand.name + ": noNoise(60, 0)", x.noNoise(60, 0), 0);
            Due.is(stand.name + ": noNoise(60, 100)", x.noNoise(60, 100), 1000000000);
            Due.is(stand.name + ": noNoise(1, 99)", x.noNoise(1, 99), 990000000);
            Due.is(stand.name + ": noNoise(4, 1)", x.noNoise(4, 1), 10);
            Due.is(stand.name + ": noNoise(5, 1)", x.noNoise(5, 1), 0);
        }
        for (int q = 0; q <= 100; q++) {
            EdgeEchoes x = new EdgeEchoes();
            BigInteger odds = BigInteger.valueOf(1000000000);
            for (int n = 0; n <= 60; n++) {
                Due.is("noNoise(" + n + ", " + q + ")", x.noNoise(n, q), odds.intValueExact());
                odds = odds.multiply(BigInteger.valueOf(q)).divide(BigInteger.valueOf(100));
            }
        }
    }

    /** "TRIED from now, as nothing else is done; nothing changes by it." */
    private static void nothingChangesByIt() {
        for (Twins.Stand stand : Twins.ALL) {
            Twins.same(stand, "what is tried", x -> {
                for (int what = 0; what <= 2; what++) {
                    x.volts(0, 200, what);
                    x.couldBe(what);
                    x.told(12 + what);
                }
                x.rest(0);
                x.sees(0, 200, 0);
                x.sees(1, 200, 1);
                x.gate(0, 5);
                x.noNoise(60, 99);
                x.look();
                x.judge();
            });
        }
    }
}
