/** Promises 21 to 24: volts, rest, sees, noNoise. */
public final class TriedTest {
    private static final int UNKNOWN = EdgeEchoes.UNKNOWN, OUTSIDE = EdgeEchoes.OUTSIDE;
    private static final String LINE = "d10 6;p20 2;p40 1;e2 20;g0 2 5;g1 0 5;g2 1 4;g3 0 5;";

    public static void main(String[] args) {
        volts();
        voltsAsTicksTell();
        rest();
        sees();
        noNoise();
        Due.end();
    }

    private static void volts() {
        EdgeEchoes x = Due.lineOf(LINE);
        x.drive(true);
        int[] due = {0, 4000, 4000, 4000, 5333, 4888};
        int peak = 0;
        for (int n = 0; n < due.length; n++) {
            peak = Math.max(peak, due[n]);
            Due.is("volts(0, " + n + ", 0)", x.volts(0, n, 0), 1000000 + due[n]);
            Due.is("volts(0, " + n + ", 1)", x.volts(0, n, 1), 1000000 + peak);
            Due.is("volts(0, " + n + ", 2)", x.volts(0, n, 2), 1000000);
        }
        Due.is("nothing passed", x.told(10), 0);
        x.tick(4);
        Due.is("LEAST from now", x.volts(0, 1, 2), 1004888);
        Due.is("PEAK from now", x.volts(0, 1, 1), 1005333);
        Due.is("volts(3, 9, 0)", x.volts(3, 9, 0), 1000000);
        Due.is("volts(71, 200, 1)", x.volts(71, 200, 1), 1000000);
        Due.is("volts(72, 0, 0)", x.volts(72, 0, 0), OUTSIDE);
        Due.is("volts(-1, 0, 0)", x.volts(-1, 0, 0), OUTSIDE);
        Due.is("volts(0, 201, 0)", x.volts(0, 201, 0), OUTSIDE);
        Due.is("volts(0, -1, 0)", x.volts(0, -1, 0), OUTSIDE);
        Due.is("volts(0, 0, 3)", x.volts(0, 0, 3), OUTSIDE);
        Due.is("volts(0, 0, -1)", x.volts(0, 0, -1), OUTSIDE);
    }

    private static void voltsAsTicksTell() {
        for (int what = 0; what <= 2; what++) {
            EdgeEchoes x = onItsWay();
            EdgeEchoes y = onItsWay();
            int volts = y.cell(4, 0);
            int peak = volts;
            int least = volts;
            for (int n = 0; n <= 200; n++) {
                volts = y.cell(4, 0);
                peak = Math.max(peak, volts);
                least = Math.min(least, volts);
                Due.is("volts(4, " + n + ", " + what + ")", x.volts(4, n, what), what == 0 ? volts : what == 1 ? peak : least);
                y.tick(1);
            }
        }
    }

    private static EdgeEchoes onItsWay() {
        EdgeEchoes x = Due.lineOf("d3 9;p20 3;p70 4;p5 2;e1 1;");
        x.drive(true);
        x.tick(20);
        x.drive(false);
        x.cut(5);
        return x;
    }

    private static void rest() {
        EdgeEchoes x = Due.lineOf("d10 6;p10 4;");
        Due.is("LOW: at rest", x.rest(0), 0);
        x.drive(true);
        Due.is("rest(0): there and back", x.rest(0), 8);
        Due.is("rest(3)", x.rest(3), 5);
        Due.is("rest(4)", x.rest(4), 0);
        Due.is("rest(71)", x.rest(71), 0);
        x.tick(3);
        Due.is("rest(0) from now", x.rest(0), 5);
        Due.is("rest(-1)", x.rest(-1), OUTSIDE);
        Due.is("rest(72)", x.rest(72), OUTSIDE);
        // Never at rest: a swing that does not fade counts from the last tick on.
        EdgeEchoes swing = Due.lineOf("d0 6;p10 1;");
        swing.drive(true);
        Due.is("a swing", swing.rest(0), 200);
        restEdge("d60 1;p60 2;e2 65;", 20, 1);
        restEdge("d57 1;p57 2;e2 62;", 21, 4);
        restEdge("d50 2;p50 2;e2 48;", -20, 1);
        restAsTold("d5 9;p20 3;p70 4;e0 1;");
        restAsTold("d40 1;p20 3;p70 4;p3 1;e2 60;");
        restAsTold("d98 99;p1 2;e0 1;");
    }

    /** A driver of the wire's ohms: one echo, and all is at rest. */
    private static void restEdge(String text, int echo, int rest) {
        EdgeEchoes x = Due.lineOf(text);
        x.drive(true);
        Due.is("echo of " + text, x.volts(0, 200, 0) - x.volts(0, 3, 0), echo);
        Due.is("rest(0) of " + text, x.rest(0), rest);
    }

    private static void restAsTold(String text) {
        EdgeEchoes x = Due.lineOf(text);
        x.drive(true);
        for (int i = 0; i < 3; i++) {
            int last = x.volts(i, 200, 0);
            int want = 200;
            for (int k = 200; k >= 0 && Math.abs(x.volts(i, k, 0) - last) <= 20; k--) {
                want = k;
            }
            Due.is("rest(" + i + ") of " + text, x.rest(i), want);
        }
    }

    private static void sees() {
        for (int g = 0; g < 4; g++) {
            seesAsTicksTell(g);
        }
        EdgeEchoes x = Due.lineOf(LINE);
        x.drive(true);
        x.tick(2);
        Due.is("a one at the end behind 1", x.sees(0, 1, 0), 1);
        Due.is("none behind 0", x.sees(0, 0, 0), 0);
        Due.is("nothing passed", x.told(10), 2);
        Due.is("sees(4, 0, 0)", x.sees(4, 0, 0), UNKNOWN);
        Due.is("sees(-1, 999, 9)", x.sees(-1, 999, 9), UNKNOWN);
        Due.is("sees(0, -1, 0)", x.sees(0, -1, 0), OUTSIDE);
        Due.is("sees(0, 201, 0)", x.sees(0, 201, 0), OUTSIDE);
        Due.is("sees(0, 0, 2)", x.sees(0, 0, 2), OUTSIDE);
        Due.is("sees(0, 0, -1)", x.sees(0, 0, -1), OUTSIDE);
    }

    private static void seesAsTicksTell(int g) {
        for (int what = 0; what <= 1; what++) {
            EdgeEchoes x = Due.lineOf(LINE);
            EdgeEchoes y = Due.lineOf(LINE);
            x.drive(true);
            y.drive(true);
            x.tick(2);
            y.tick(2);
            int was = what == 0 ? 0 : y.gate(g, 4);
            for (int n = 0; n <= 200; n++) {
                Due.is("sees(" + g + ", " + n + ", " + what + ")", x.sees(g, n, what), y.gate(g, 3 + what) - was);
                y.tick(1);
            }
        }
    }

    private static void noNoise() {
        EdgeEchoes x = new EdgeEchoes();
        Due.is("noNoise(0, 0)", x.noNoise(0, 0), 1000000000);
        Due.is("noNoise(1, 0)", x.noNoise(1, 0), 0);
        Due.is("noNoise(60, 100)", x.noNoise(60, 100), 1000000000);
        Due.is("noNoise(2, 90)", x.noNoise(2, 90), 810000000);
        Due.is("noNoise(5, 1)", x.noNoise(5, 1), 0);
        Due.is("noNoise(4, 1)", x.noNoise(4, 1), 10);
        // 33 by hundred each, cut each time: 330000000, .., 129, 42, 13, 4, 1, 0.
        Due.is("noNoise(14, 33)", x.noNoise(14, 33), cutEach(14, 33));
        Due.is("noNoise(60, 99)", x.noNoise(60, 99), 547156620);
        Due.is("noNoise(61, 1)", x.noNoise(61, 1), OUTSIDE);
        Due.is("noNoise(-1, 1)", x.noNoise(-1, 1), OUTSIDE);
        Due.is("noNoise(1, 101)", x.noNoise(1, 101), OUTSIDE);
        Due.is("noNoise(1, -1)", x.noNoise(1, -1), OUTSIDE);
    }

    private static int cutEach(int n, int q) {
        java.math.BigInteger odds = java.math.BigInteger.valueOf(1000000000);
        for (int k = 0; k < n; k++) {
            odds = odds.multiply(java.math.BigInteger.valueOf(q)).divide(java.math.BigInteger.valueOf(100));
        }
        return odds.intValue();
    }
}
