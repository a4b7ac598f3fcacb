import java.util.Random;

/** Long runs by draws: every answer of the class against that of PlainModel. */
public final class ModelTest {
    private static final int RUNS = 240;
    private static final int CALLS = 512;

    private final Random random;
    private final int run;
    private final EdgeEchoes x = new EdgeEchoes();
    private final PlainModel m = new PlainModel();
    private final int cellsTold;

    private ModelTest(int run) {
        this.run = run;
        this.random = new Random(run * 7919L + 5);
        // Short lines mostly: the model is slow, and short lines echo more.
        this.cellsTold = run % 12 == 0 ? 9 : 3;
    }

    public static void main(String[] args) {
        for (int run = 0; run < RUNS; run++) {
            new ModelTest(run).calls();
        }
        Due.end();
    }

    private void same(String call, int got, int want) {
        Due.is("run " + run + ": " + call, got, want);
    }

    private void calls() {
        int left = CALLS;
        while (left > 0) {
            if (run % 8 != 7 || random.nextInt(3) == 0) {
                String told = random.nextInt(6) == 0 ? spoilt(lineText()) : lineText();
                left -= told.length() + 2 <= left ? text(told) : 0;
            }
            int span = run % 3 == 0 ? 40 : 150;
            for (int k = 0; k < span && left > 0; k++, left--) {
                call(random.nextInt(64));
            }
        }
    }

    private int text(String text) {
        for (int i = 0; i < text.length(); i++) {
            same("feed", x.feed(text.charAt(i)), m.feed(text.charAt(i)));
        }
        same("line of " + text, x.line(), m.line());
        same("fault of " + text, x.fault(), m.fault());
        return text.length() + 2;
    }

    private int from(int low, int high) {
        return low + random.nextInt(high - low + 1);
    }

    /** Mostly within the bounds, at times just beyond them or far away. */
    private int near(int low, int high) {
        switch (random.nextInt(24)) {
            case 0: return low - 1;
            case 1: return high + 1;
            case 2: return low;
            case 3: return high;
            case 4: return random.nextInt(8) == 0 ? random.nextInt() : from(low, high);
            default: return from(low, high);
        }
    }

    private String blanks() {
        return " ".repeat(random.nextInt(12) == 0 ? random.nextInt(3) : 0);
    }

    private String clause(char word, int... numbers) {
        StringBuilder s = new StringBuilder(blanks()).append(word).append(blanks());
        for (int k = 0; k < numbers.length; k++) {
            s.append(k > 0 ? " " : "").append(blanks());
            s.append(random.nextInt(20) == 0 ? String.format("%03d", numbers[k]) : String.valueOf(numbers[k]));
        }
        return s.append(blanks()).append(';').toString();
    }

    private String lineText() {
        if (random.nextInt(40) == 0) {
            return " ".repeat(random.nextInt(3));
        }
        StringBuilder s = new StringBuilder(clause('d', from(0, 99), random.nextInt(3) == 0 ? from(1, 99) : from(1, 9)));
        int pieces = random.nextInt(10) == 0 ? from(0, 8) : cellsTold == 9 ? from(5, 8) : from(1, 4);
        boolean end = random.nextInt(4) > 0;
        int gates = from(0, 6);
        for (int p = 0; p < pieces; p++) {
            s.append(clause('p', random.nextInt(4) == 0 ? 50 : from(1, 99), from(1, cellsTold)));
            if (end && random.nextInt(3) == 0) {
                s.append(clause('e', from(0, 2), from(1, 99)));
                end = false;
            }
        }
        for (int g = 0; g < gates; g++) {
            int cell = random.nextInt(8) == 0 ? from(0, 71) : from(0, 9);
            s.append(clause('g', from(0, 3), cell, random.nextInt(4) == 0 ? from(1, 99) : from(1, 9)));
        }
        return s.toString();
    }

    private String spoilt(String text) {
        StringBuilder s = new StringBuilder(text);
        String signs = "dpeg;0123456789  x~\t" + (char) 178 + (char) 255 + (char) 0;
        for (int k = from(1, 2); k > 0; k--) {
            int at = random.nextInt(s.length() + 1);
            char sign = signs.charAt(random.nextInt(signs.length()));
            switch (random.nextInt(4)) {
                case 0: s.insert(at, sign); break;
                case 1: s.setLength(at); break;
                case 2: if (at < s.length()) s.setCharAt(at, sign); break;
                default: if (at < s.length()) s.deleteCharAt(at); break;
            }
        }
        return s.toString();
    }

    private void call(int which) {
        int a = 0;
        int b = 0;
        int c = 0;
        boolean is = random.nextBoolean();
        if (which < 12) {
            deed(which);
            return;
        }
        switch (which) {
            case 12: case 13:
                a = near(0, 17);
                a = a == 13 && random.nextInt(8) > 0 ? 12 : a;
                same("told(" + a + ")", x.told(a), m.told(a));
                break;
            case 14: a = near(0, 3); b = near(0, 2); same("wire(" + a + ", " + b + ")", x.wire(a, b), m.wire(a, b)); break;
            case 15: case 16: case 17: case 18: case 19:
                a = random.nextInt(3) == 0 ? near(0, 71) : near(0, 9);
                b = near(0, 2);
                same("cell(" + a + ", " + b + ")", x.cell(a, b), m.cell(a, b));
                break;
            case 20: a = near(1, 71); same("place(" + a + ")", x.place(a), m.place(a)); break;
            case 21: a = near(1, 9); same("place(" + a + ")", x.place(a), m.place(a)); break;
            case 22: case 23: case 24:
                a = near(0, 5);
                b = near(0, 5);
                same("gate(" + a + ", " + b + ")", x.gate(a, b), m.gate(a, b));
                break;
            case 25: case 26:
                a = near(0, 9);
                b = random.nextInt(4) == 0 ? near(0, 200) : near(0, 30);
                c = near(0, 2);
                same("volts(" + a + ", " + b + ", " + c + ")", x.volts(a, b, c), m.volts(a, b, c));
                break;
            case 27: a = near(0, 9); same("rest(" + a + ")", x.rest(a), m.rest(a)); break;
            case 28: case 29:
                a = near(0, 5);
                b = near(0, 40);
                c = near(0, 1);
                same("sees(" + a + ", " + b + ", " + c + ")", x.sees(a, b, c), m.sees(a, b, c));
                break;
            case 30: a = near(0, 60); b = near(0, 100); same("noNoise(" + a + ", " + b + ")", x.noNoise(a, b), m.noNoise(a, b)); break;
            case 31: case 32:
                a = random.nextInt(3) == 0 ? near(1, 150) : near(1, 20);
                b = random.nextInt(6) == 0 ? near(0, 99000) : near(0, 9000);
                same("see(" + a + ", " + b + ", " + is + ")", x.see(a, b, is), m.see(a, b, is));
                break;
            case 33: a = near(0, 2); same("couldBe(" + a + ")", x.couldBe(a), m.couldBe(a)); break;
            case 34: same("look()", x.look(), m.look()); break;
            case 35: case 36:
                a = near(0, 5);
                b = random.nextInt(3) > 0 ? Math.max(0, m.gate(a, 4)) : near(0, 9999);
                same("write(" + a + ", " + b + ")", x.write(a, b), m.write(a, b));
                break;
            case 37: case 38: same("judge()", x.judge(), m.judge()); break;
            case 39: if (random.nextInt(4) == 0) same("tear()", x.tear(), m.tear()); break;
            case 40: a = near(0, 2147483646); same("seed(" + a + ")", x.seed(a), m.seed(a)); break;
            case 41: if (random.nextInt(3) == 0) { a = near(0, 1); same("keep(" + a + ")", x.keep(a), m.keep(a)); } break;
            case 42: if (random.nextInt(3) == 0) { a = near(0, 1); same("goBack(" + a + ")", x.goBack(a), m.goBack(a)); } break;
            case 43: same("fault()", x.fault(), m.fault()); break;
            default: deed(which % 12); break;
        }
    }

    private void deed(int which) {
        int a = 0;
        int b = 0;
        boolean high = random.nextInt(3) > 0;
        int place = random.nextInt(4) == 0 ? near(1, 71) : near(1, 8);
        switch (which) {
            case 0: case 1: a = random.nextInt(3) == 0 ? near(1, 50) : near(1, 5); same("tick(" + a + ")", x.tick(a), m.tick(a)); break;
            case 2: same("drive(" + high + ")", x.drive(high), m.drive(high)); break;
            case 3: same("cut(" + place + ")", x.cut(place), m.cut(place)); break;
            case 4: same("brief(" + place + ")", x.brief(place), m.brief(place)); break;
            case 5: same("mend(" + place + ")", x.mend(place), m.mend(place)); break;
            case 6: a = near(0, 3); b = near(1, 99); same("piece(" + a + ", " + b + ")", x.piece(a, b), m.piece(a, b)); break;
            case 7: a = near(0, 2); b = near(1, 99); same("end(" + a + ", " + b + ")", x.end(a, b), m.end(a, b)); break;
            case 8: a = near(0, 99); same("ohms(" + a + ")", x.ohms(a), m.ohms(a)); break;
            case 9: if (random.nextInt(4) == 0) same("quiet()", x.quiet(), m.quiet()); break;
            case 10: a = near(1, 20); same("drift(" + a + ")", x.drift(a), m.drift(a)); break;
            default: a = random.nextInt(3) == 0 ? near(1, 12) : near(1, 3); same("undo(" + a + ")", x.undo(a), m.undo(a)); break;
        }
    }
}
