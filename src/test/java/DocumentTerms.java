import java.util.List;

/** What the document says ahead of its section 1. */
final class DocumentTerms {
    private static final int UNKNOWN = EdgeEchoes.UNKNOWN, OUTSIDE = EdgeEchoes.OUTSIDE;
    private static final int NOT = EdgeEchoes.NOT, FULL = EdgeEchoes.FULL;

    private DocumentTerms() {
    }

    static void all() {
        wholeNumbers();
        numberedFromZero();
        set();
        refusals();
        refusedChangesNothing();
        billion();
    }

    private static void wholeNumbers() {
        Sentences.says("Words in capitals are told where they come first. All numbers are whole; / cuts towards 0.");
        EdgeEchoes x = Sentences.high("d0 1;p2 1;e2 1;");
        x.tick(2);
        // 1000 times (1 less 2) by 3 is -333.3.
        Sentences.waves(x, "below 0", 0, 1000, -333);
        EdgeEchoes y = Sentences.high("d0 1;p1 1;e2 2;");
        y.tick(2);
        Sentences.waves(y, "above 0", 0, 1000, 333);
        // 99 by hundred four times is 96059601 by hundred million, five times 9509900499 by ten billion.
        Sentences.is("noNoise(5, 99)", x.noNoise(5, 99), 950990049);
    }

    private static void numberedFromZero() {
        Sentences.says("What has a number has it from 0 on, as it comes.");
        EdgeEchoes x = Due.lineOf("d1 1;p10 2;g0 0 5;p20 3;g1 1 6;p30 1;");
        for (int k = 0; k < 3; k++) {
            Sentences.is("PIECE " + k, x.wire(k, 0), 10 + 10 * k);
        }
        for (int k = 0; k < 2; k++) {
            Sentences.is("GATE " + k, x.gate(k, 2), 5 + k);
        }
        Sentences.is("no PIECE 3", x.wire(3, 0), UNKNOWN);
        Sentences.is("no GATE 2", x.gate(2, 0), UNKNOWN);
        Sentences.is("CELL 0 is PIECE 0's first", x.wire(0, 2), 0);
        x.write(0, 0);
        x.write(1, 7);
        Sentences.is("the second entry has 1", x.judge(), 1);
        x.feed('x');
        x.line();
        Sentences.is("the first letter has 0", x.fault(), 0);
    }

    private static void set() {
        Sentences.says("A SET is a whole number, bit k for k.");
        EdgeEchoes x = Due.lineOf("d1 1;p1 1;g0 0 1;g3 0 1;g0 0 1;g3 0 1;g0 0 1;g3 0 1;");
        Sentences.is("none", x.told(11), 0);
        x.tick(1);
        Sentences.is("1, 3, 5", x.told(11), 2 + 8 + 32);
        Sentences.says("NONE is -1.");
        Sentences.is("NONE", EdgeEchoes.NONE, -1);
        Sentences.is("fault()", x.fault(), -1);
    }

    private static void refusals() {
        Sentences.says("REFUSALS, of several the first in this order: UNKNOWN (a PIECE, GATE, IMAGE that there is not),");
        Sentences.refused(Twins.ALL, "wire(8, 3)", x -> x.wire(8, 3), UNKNOWN);
        Sentences.refused(Twins.ALL, "gate(6, 6)", x -> x.gate(6, 6), UNKNOWN);
        Sentences.refused(Twins.ALL, "piece(8, 0)", x -> x.piece(8, 0), UNKNOWN);
        Sentences.refused(Twins.ALL, "sees(6, 201, 2)", x -> x.sees(6, 201, 2), UNKNOWN);
        Sentences.refused(Twins.ALL, "write(6, -1)", x -> x.write(6, -1), UNKNOWN);
        Sentences.refused(Twins.ALL, "keep(2)", x -> x.keep(2), UNKNOWN);
        Sentences.refused(Twins.ALL, "goBack(2)", x -> x.goBack(2), UNKNOWN);
        Sentences.says("OUTSIDE (another number out of its bounds),");
        Sentences.refused(Twins.ALL, "tick(51)", x -> x.tick(51), OUTSIDE);
        Sentences.refused(Twins.ALL, "drift(0)", x -> x.drift(0), OUTSIDE);
        Sentences.refused(Twins.ALL, "cut(72)", x -> x.cut(72), OUTSIDE);
        Sentences.refused(Twins.ALL, "brief(0)", x -> x.brief(0), OUTSIDE);
        Sentences.refused(Twins.ALL, "mend(72)", x -> x.mend(72), OUTSIDE);
        Sentences.refused(Twins.ALL, "end(3, 1)", x -> x.end(3, 1), OUTSIDE);
        Sentences.refused(Twins.ALL, "ohms(100)", x -> x.ohms(100), OUTSIDE);
        Sentences.refused(Twins.ALL, "undo(13)", x -> x.undo(13), OUTSIDE);
        Sentences.refused(Twins.ALL, "feed(256)", x -> x.feed(256), OUTSIDE);
        Sentences.refused(Twins.ALL, "see(0, 0, true)", x -> x.see(0, 0, true), OUTSIDE);
        Sentences.refused(Twins.WITH_LINE, "write(0, 10000)", x -> x.write(0, 10000), OUTSIDE);
        Sentences.says("NOT (not now, as told), FULL.");
        Sentences.refused(Twins.WITHOUT_LINE, "tick(1)", x -> x.tick(1), NOT);
        Sentences.refused(List.of(Twins.FILLED), "feed(32)", x -> x.feed(32), FULL);
        Sentences.refused(List.of(Twins.FILLED), "see(1, 0, true)", x -> x.see(1, 0, true), FULL);
        Sentences.refused(List.of(Twins.FILLED), "write(0, 0)", x -> x.write(0, 0), FULL);
        Sentences.says("They are far below all that is counted: -1000000001 and on.");
        int[] due = {UNKNOWN, OUTSIDE, NOT, FULL};
        for (int k = 0; k < due.length; k++) {
            Sentences.is("refusal " + k, due[k], -1000000001 - k);
        }
    }

    private static void refusedChangesNothing() {
        Sentences.says("What is refused changes nothing.");
        // One refusal of each call that could change something, where there is much that it could change.
        List<Twins.Stand> stands = List.of(Twins.BUSY, Twins.FILLED, Twins.LARGEST);
        Sentences.refused(stands, "feed(-1)", x -> x.feed(-1), OUTSIDE);
        Sentences.refused(stands, "tick(0)", x -> x.tick(0), OUTSIDE);
        Sentences.refused(stands, "drift(51)", x -> x.drift(51), OUTSIDE);
        Sentences.refused(stands, "cut(0)", x -> x.cut(0), OUTSIDE);
        Sentences.refused(stands, "brief(72)", x -> x.brief(72), OUTSIDE);
        Sentences.refused(stands, "mend(2)", x -> x.mend(2), NOT);
        Sentences.refused(stands, "piece(0, 100)", x -> x.piece(0, 100), OUTSIDE);
        Sentences.refused(stands, "end(2, 100)", x -> x.end(2, 100), OUTSIDE);
        Sentences.refused(stands, "ohms(-1)", x -> x.ohms(-1), OUTSIDE);
        Sentences.refused(stands, "undo(0)", x -> x.undo(0), OUTSIDE);
        Sentences.refused(stands, "see(151, 0, false)", x -> x.see(151, 0, false), OUTSIDE);
        Sentences.refused(stands, "write(0, -1)", x -> x.write(0, -1), OUTSIDE);
        Sentences.refused(stands, "seed(-1)", x -> x.seed(-1), OUTSIDE);
        Sentences.refused(stands, "keep(-1)", x -> x.keep(-1), UNKNOWN);
        Sentences.refused(stands, "goBack(-1)", x -> x.goBack(-1), UNKNOWN);
        Sentences.refused(List.of(Twins.BUSY), "goBack(1)", x -> x.goBack(1), NOT);
        Sentences.refused(List.of(Twins.BUSY), "undo(7)", x -> x.undo(7), NOT);
        Sentences.refused(Twins.WITHOUT_LINE, "drive(true)", x -> x.drive(true), NOT);
        Sentences.refused(Twins.WITHOUT_LINE, "quiet()", EdgeEchoes::quiet, NOT);
    }

    private static void billion() {
        Sentences.says("BILLION is 1000000000.");
        Sentences.is("noNoise(0, 0)", new EdgeEchoes().noNoise(0, 0), 1000000000);
    }
}
