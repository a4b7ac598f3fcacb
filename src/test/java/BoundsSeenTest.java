import java.util.List;

/** Every boundary that section 3 and promises 25 to 30 name of what is seen and written: see, couldBe, look, the book. */
public final class BoundsSeenTest {
    private static final int UNKNOWN = EdgeEchoes.UNKNOWN, OUTSIDE = EdgeEchoes.OUTSIDE;
    private static final int FULL = EdgeEchoes.FULL, NONE = EdgeEchoes.NONE;
    private static final String MATCHED_72 = "d10 6;p10 9;p10 9;p10 9;p10 9;p10 9;p10 9;p10 9;p10 9;e2 10;";

    public static void main(String[] args) {
        seeRefusals();
        sixAtMost();
        seenAtItsTicks();
        seenAtItsVolts();
        couldBeRefusals();
        couldBeOfFewPlaces();
        couldBeOfAllPlaces();
        onlyPlacesThatAreWhole();
        fromAQuietLine();
        lookOfFewSuspects();
        lookUpTo60();
        lookOfLikeOnes();
        writeRefusals();
        twentyAtMost();
        entriesFrom0To9999();
        wrongFirst();
        tearOfAll();
        tornForGood();
        goneWithALine();
        Due.end();
    }

    private static void could(EdgeEchoes x, String when, int many, int least, int greatest) {
        Due.is(when + ": couldBe(0)", x.couldBe(0), many);
        Due.is(when + ": couldBe(1)", x.couldBe(1), least);
        Due.is(when + ": couldBe(2)", x.couldBe(2), greatest);
    }

    /** see: "t TICKS (1 .. 150)", "v thousandths (0 .. 99000)": "OUTSIDE, FULL (6)." */
    private static void seeRefusals() {
        for (boolean is : new boolean[] {true, false}) {
            for (int t : Twins.beyond(1, 150)) {
                Twins.refused(Twins.ALL, "see(" + t + ", 0, " + is + ")", x -> x.see(t, 0, is), OUTSIDE);
                Twins.refused(Twins.ALL, "see(" + t + ", 99001, " + is + ")", x -> x.see(t, 99001, is), OUTSIDE);
            }
            for (int v : Twins.beyond(0, 99000)) {
                Twins.refused(Twins.ALL, "see(1, " + v + ", " + is + ")", x -> x.see(1, v, is), OUTSIDE);
                Twins.refused(Twins.ALL, "see(150, " + v + ", " + is + ")", x -> x.see(150, v, is), OUTSIDE);
            }
            Twins.refused(Twins.FILLED, "see(1, 0, " + is + ")", x -> x.see(1, 0, is), FULL);
            Twins.refused(Twins.FILLED, "see(150, 99000, " + is + ")", x -> x.see(150, 99000, is), FULL);
        }
    }

    /** "SEEN (6 at most)", with or without a line; the sixth counts, a seventh does not. */
    private static void sixAtMost() {
        for (Twins.Stand stand : List.of(Twins.NEW, Twins.NO_CELLS, Twins.ONE_CELL, Twins.LARGEST)) {
            EdgeEchoes x = stand.made();
            for (int k = 1; k <= 6; k++) {
                Due.is(stand.name + ": see " + k, x.see(k == 1 ? 1 : 150, k == 2 ? 99000 : 0, k % 2 == 0), k);
                Due.is(stand.name + ": told(15)", x.told(15), k);
            }
            Due.is(stand.name + ": see 7", x.see(1, 0, true), FULL);
            Due.is(stand.name + ": told(15) still", x.told(15), 6);
        }
        // Only the sixth tells that place 3 is short.
        EdgeEchoes x = Due.lineOf("d10 6;p10 5;e2 10;");
        for (int k = 1; k <= 4; k++) {
            x.see(k, 0, true);
        }
        x.see(5, 3000, true);
        // Cuts at 1 and 2 show 6000 by then, which is 3000 or more as well.
        could(x, "five", 6, 2, 9);
        x.see(6, 1, false);
        could(x, "six", 1, 7, 7);
        x.see(6, 1, true);
        could(x, "seven", 1, 7, 7);
    }

    /** "behind t TICKS (1 .. 150)": the very tick, not one ahead of it or behind. */
    private static void seenAtItsTicks() {
        // A cut at 1: 6000, 12000, 6000, 0 for ever; behind 150 it is 12000.
        for (int t = 146; t <= 150; t++) {
            EdgeEchoes x = Due.lineOf("d0 6;p9 2;e2 9;");
            x.see(t, 12000, true);
            Due.is("12000 behind " + t, x.couldBe(1), t % 4 == 2 ? 2 : NONE);
        }
        for (int t = 1; t <= 4; t++) {
            EdgeEchoes x = Due.lineOf("d0 6;p9 2;e2 9;");
            x.see(t, 6001, false);
            x.see(t, 6000, true);
            Due.is("6000 behind " + t + " by a cut", x.couldBe(1), t % 2 == 1 ? 2 : NONE);
        }
        // Several of one tick: all of them.
        EdgeEchoes x = Due.lineOf("d0 6;p9 2;e2 9;");
        x.see(150, 12000, true);
        x.see(150, 12001, false);
        could(x, "just 12000", 1, 2, 2);
        x.see(150, 12000, false);
        could(x, "not 12000", 0, NONE, NONE);
        // What shows first behind 142 ticks: a cut or a short at the last place.
        EdgeEchoes far = Due.lineOf(MATCHED_72);
        far.see(141, 3000, true);
        far.see(141, 3001, false);
        could(far, "nothing behind 141", 2, 142, 143);
        far.see(142, 3001, true);
        could(far, "6000 behind 142", 1, 142, 142);
    }

    /** "were v thousandths (0 .. 99000) or more, or less" */
    private static void seenAtItsVolts() {
        // 99000 behind the first tick, whatever the fault.
        EdgeEchoes x = Due.lineOf("d0 99;p1 2;");
        x.see(1, 99000, true);
        could(x, "99000 or more", 2, 2, 3);
        x.see(1, 99000, false);
        could(x, "less than 99000", 0, NONE, NONE);
        EdgeEchoes almost = Due.lineOf("d1 99;p99 2;");
        almost.see(1, 98009, true);
        almost.see(1, 98010, true);
        could(almost, "98010 or more", 2, 2, 3);
        almost.see(1, 98011, false);
        could(almost, "less than 98011", 2, 2, 3);
        almost.see(1, 98010, false);
        could(almost, "less than 98010", 0, NONE, NONE);
        // A short at 1 shows 10 below 0 behind 3 ticks, and just 0 behind 2.
        EdgeEchoes below = Due.lineOf("d99 1;p1 2;e2 1;");
        below.see(3, 0, false);
        could(below, "less than 0", 1, 3, 3);
        below.tear();
        below.see(3, 0, true);
        could(below, "0 or more", 1, 2, 2);
        below.tear();
        below.see(2, 0, true);
        could(below, "just 0 is 0 or more", 2, 2, 3);
        below.see(2, 1, false);
        could(below, "and less than 1", 1, 3, 3);
    }

    /** couldBe: "what = 0 .. 2": "OUTSIDE." */
    private static void couldBeRefusals() {
        for (int what : Twins.beyond(0, 2)) {
            Twins.refused(Twins.ALL, "couldBe(" + what + ")", x -> x.couldBe(what), OUTSIDE);
        }
    }

    /** "how many; the least; the greatest; NONE" where there are no places, one, two. */
    private static void couldBeOfFewPlaces() {
        for (Twins.Stand stand : List.of(Twins.NEW, Twins.NO_LINE, Twins.BLANKED, Twins.NO_CELLS, Twins.ONE_CELL)) {
            could(stand.made(), stand.name, 0, NONE, NONE);
            Due.is(stand.name + ": look", stand.made().look(), NONE);
        }
        could(Due.lineOf("d1 1;p1 2;"), "one place", 2, 2, 3);
        could(Due.lineOf("d1 1;p1 3;"), "two places", 4, 2, 5);
    }

    private static void couldBeOfAllPlaces() {
        EdgeEchoes x = Due.lineOf(MATCHED_72);
        could(x, "71 places", 142, 2, 143);
        x.see(2, 3001, true);
        could(x, "a cut at the first", 1, 2, 2);
        x.tear();
        x.see(2, 3000, false);
        could(x, "a short at the first", 1, 3, 3);
        x.tear();
        x.see(140, 3000, true);
        x.see(140, 3001, false);
        could(x, "at the last", 2, 142, 143);
        x.see(142, 2999, false);
        could(x, "a short at the last", 1, 143, 143);
    }

    /** "with just one PLACE more CUT, or SHORT, than now (one that is WHOLE)" */
    private static void onlyPlacesThatAreWhole() {
        EdgeEchoes x = Due.lineOf("d10 6;p10 4;e2 10;");
        x.cut(1);
        could(x, "the first is cut", 4, 4, 7);
        x.brief(3);
        could(x, "the last is short, too", 2, 4, 5);
        x.cut(2);
        could(x, "none is whole", 0, NONE, NONE);
        Due.is("none is whole: look", x.look(), NONE);
        x.mend(3);
        could(x, "the last is whole again", 2, 6, 7);
        x.undo(1);
        could(x, "undone", 0, NONE, NONE);
    }

    /** "from a QUIET line, likewise HIGH": whatever runs along it now. */
    private static void fromAQuietLine() {
        EdgeEchoes x = Due.lineOf("d10 6;p10 5;e2 10;");
        x.see(4, 6000, true);
        could(x, "quiet and low", 2, 2, 4);
        x.drive(true);
        x.tick(5);
        could(x, "high, on its way", 2, 2, 4);
        x.drive(false);
        x.tick(2);
        could(x, "low again", 2, 2, 4);
        x.piece(0, 20);
        // A cut at 1 shows 8000, 6666, 5332; one at 2 shows 8000 behind 4.
        could(x, "of other ohms, as now", 1, 4, 4);
        x.undo(1);
        x.ohms(0);
        // 6000 at first: a cut at 1 shows 0 behind 4, one at 2 shows 12000, shorts at 1 and 2 show 0.
        could(x, "by another driver, as now", 5, 4, 9);
    }

    /** look: "NONE: none parts them": none, one, or all alike. */
    private static void lookOfFewSuspects() {
        EdgeEchoes two = Due.lineOf("d10 6;p10 2;e2 10;");
        Due.is("two that part", two.look(), 2);
        two.see(2, 3000, true);
        Due.is("one", two.look(), NONE);
        two.see(2, 3000, false);
        Due.is("none", two.look(), NONE);
        EdgeEchoes alike = Due.lineOf("d10 6;p10 3;e2 10;");
        alike.cut(1);
        could(alike, "two behind a cut", 2, 4, 5);
        Due.is("alike", alike.look(), NONE);
        alike.undo(1);
        alike.brief(1);
        Due.is("alike behind a short", alike.look(), NONE);
    }

    /** look: "behind how many TICKS (1 .. 60)" */
    private static void lookUpTo60() {
        EdgeEchoes x = Due.lineOf(MATCHED_72);
        between(x, 1);
        Due.is("1 or 2: behind 2", x.look(), 2);
        between(x, 30);
        Due.is("30 or 31: behind 60", x.look(), 60);
        between(x, 31);
        Due.is("31 or 32: not behind 62", x.look(), NONE);
        between(x, 70);
        Due.is("70 or 71: not at all", x.look(), NONE);
        Due.is("what is seen later than 60 counts", x.couldBe(0), 2);
    }

    /** What is seen leaves a cut at this place, or at the next. */
    private static void between(EdgeEchoes x, int i) {
        x.tear();
        if (i > 1) {
            x.see(2 * i - 2, 3001, false);
        }
        x.see(2 * i + 2, 6000, true);
        could(x, "a cut at " + i + " or at the next", 2, 2 * i, 2 * i + 2);
    }

    /** look: "the greatest part that is alike is least; of like ones the least" */
    private static void lookOfLikeOnes() {
        EdgeEchoes x = Due.lineOf("d10 6;p10 5;e2 10;");
        // Cuts, shorts and others behind 2: 1, 1, 6; behind 4: 2, 2, 4; behind 6: 3, 3, 2; behind 8: 4, 4.
        Due.is("parts of 3, 3, 2", x.look(), 6);
        EdgeEchoes y = Due.lineOf("d10 6;p10 4;e2 10;");
        // Behind 2: 1, 1, 4; behind 4: 2, 2, 2; behind 6: 3, 3.
        Due.is("parts of 2, 2, 2", y.look(), 4);
        EdgeEchoes z = Due.lineOf("d10 6;p10 3;e2 10;");
        // Behind 2: 1, 1, 2; behind 4: 2, 2. Of like ones the least.
        Due.is("parts of 2", z.look(), 2);
    }

    /** write: "(0 .. 9999) .. UNKNOWN, OUTSIDE, FULL (20)." */
    private static void writeRefusals() {
        for (int edges : new int[] {0, 9999, -1, 10000}) {
            for (int g : Twins.beyond(0, 5)) {
                Twins.refused(Twins.ALL, "write(" + g + ", " + edges + ")", x -> x.write(g, edges), UNKNOWN);
            }
            Twins.refused(Twins.WITHOUT_LINE, "write(0, " + edges + ")", x -> x.write(0, edges), UNKNOWN);
            Twins.refused(Twins.ONE_CELL, "write(2, " + edges + ")", x -> x.write(2, edges), UNKNOWN);
            Twins.refused(Twins.BUSY, "write(4, " + edges + ")", x -> x.write(4, edges), UNKNOWN);
            Twins.refused(Twins.FILLED, "write(2, " + edges + ")", x -> x.write(2, edges), UNKNOWN);
        }
        for (int edges : Twins.beyond(0, 9999)) {
            Twins.refused(Twins.WITH_LINE, "write(1, " + edges + ")", x -> x.write(1, edges), OUTSIDE);
            Twins.refused(Twins.LARGEST, "write(5, " + edges + ")", x -> x.write(5, edges), OUTSIDE);
        }
        for (int edges : new int[] {0, 9999}) {
            Twins.refused(Twins.FILLED, "write(0, " + edges + ")", x -> x.write(0, edges), FULL);
            Twins.refused(Twins.FILLED, "write(1, " + edges + ")", x -> x.write(1, edges), FULL);
        }
    }

    /** "THE BOOK (20 at most)": the twentieth is judged, a twenty-first is not. */
    private static void twentyAtMost() {
        EdgeEchoes x = Due.lineOf("d1 1;p1 1;g0 0 1;g0 0 1;g0 0 1;g0 0 1;g0 0 1;g0 0 1;");
        for (int k = 1; k <= 19; k++) {
            Due.is("write " + k, x.write(k % 6, 0), k);
            Due.is("told(16)", x.told(16), k);
        }
        Due.is("nineteen are right", x.judge(), NONE);
        Due.is("write 20", x.write(5, 1), 20);
        Due.is("the twentieth is wrong", x.judge(), 19);
        Due.is("write 21", x.write(0, 0), FULL);
        Due.is("told(16) still", x.told(16), 20);
        Due.is("tear()", x.tear(), 20);
        Due.is("room again", x.write(0, 1), 1);
        Due.is("the first is wrong", x.judge(), 0);
    }

    private static void entriesFrom0To9999() {
        EdgeEchoes x = Due.lineOf("d1 1;p1 1;g3 0 1;");
        Due.is("0", x.write(0, 0), 1);
        Due.is("0 is right", x.judge(), NONE);
        x.tick(1);
        Due.is("0 is wrong", x.judge(), 0);
        x.tear();
        Due.is("1", x.write(0, 1), 1);
        Due.is("9999", x.write(0, 9999), 2);
        Due.is("9999 is wrong", x.judge(), 1);
    }

    /** "WRONG: the first that is otherwise now; NONE." */
    private static void wrongFirst() {
        EdgeEchoes none = new EdgeEchoes();
        Due.is("no line", none.judge(), NONE);
        EdgeEchoes x = Due.lineOf("d0 9;p9 1;e2 9;g0 0 9;g3 0 9;");
        Due.is("an empty book", x.judge(), NONE);
        x.write(0, 0);
        x.write(1, 1);
        x.write(0, 1);
        x.write(1, 0);
        Due.is("now", x.judge(), 1);
        x.tick(1);
        Due.is("behind a tick", x.judge(), 2);
        x.drive(true);
        x.tick(1);
        Due.is("behind another", x.judge(), 0);
        x.quiet();
        Due.is("quiet", x.judge(), 1);
        x.undo(4);
        Due.is("undone", x.judge(), 1);
    }

    /** tear: "Nothing SEEN, no BOOK: how much both had." */
    private static void tearOfAll() {
        for (Twins.Stand stand : List.of(Twins.NEW, Twins.BLANKED, Twins.ONE_CELL, Twins.LARGEST)) {
            Twins.same(stand, "tear() of nothing", x -> Due.is(stand.name + ": tear()", x.tear(), 0));
        }
        Due.is("without a line", Twins.NO_LINE.made().tear(), 1);
        EdgeEchoes x = Twins.FILLED.made();
        Due.is("both are full", x.tear(), 26);
        Due.is("nothing SEEN", x.told(15), 0);
        Due.is("no BOOK", x.told(16), 0);
        Due.is("nothing is left", x.tear(), 0);
        Due.is("nothing is wrong", x.judge(), NONE);
        could(x, "all fits", 8, 2, 9);
        Due.is("no deed", x.told(17), 12);
        Due.is("the text stays", x.told(4), 240);
        for (int k = 1; k <= 6; k++) {
            Due.is("room to see", x.see(1, 0, true), k);
        }
        for (int k = 1; k <= 20; k++) {
            Due.is("room to write", x.write(0, 0), k);
        }
    }

    /** What was torn does not come again behind what is seen and written anew. */
    private static void tornForGood() {
        EdgeEchoes x = Due.lineOf("d10 6;p10 5;e2 10;g0 0 1;");
        for (int k = 1; k <= 6; k++) {
            x.see(2, 6000, true);
            x.write(0, 7);
        }
        could(x, "a cut at 1", 1, 2, 2);
        x.tear();
        for (int k = 1; k <= 6; k++) {
            Due.is("seen anew", x.see(150, 0, true), k);
            could(x, "all fits what is seen anew", 8, 2, 9);
            Due.is("written anew", x.write(0, 0), k);
            Due.is("all is right anew", x.judge(), NONE);
        }
    }

    /** line: "nothing SEEN, no BOOK"; with a fault all stays. */
    private static void goneWithALine() {
        EdgeEchoes x = Due.lineOf("d10 6;p10 5;e2 10;g0 0 1;");
        x.see(2, 6000, true);
        x.write(0, 7);
        Due.told(x, "d");
        could(x, "a fault", 1, 2, 2);
        Due.is("a fault: the book", x.judge(), 0);
        Due.told(x, "d10 6;p10 5;e2 10;g0 0 1;");
        could(x, "a line", 8, 2, 9);
        Due.is("a line: the book", x.judge(), NONE);
        EdgeEchoes none = new EdgeEchoes();
        none.see(2, 6000, true);
        Due.told(none, "d10 6;p10 5;e2 10;");
        Due.is("what was seen without a line", none.told(15), 0);
    }
}
