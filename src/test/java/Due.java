/** What the tests share: answers compared with those due, and short ways to tell a line. */
final class Due {
    private static int asked = 0;
    private static int wrong = 0;

    private Due() {
    }

    static void is(String call, long got, long want) {
        asked++;
        if (got != want) {
            wrong++;
            System.out.println(call + " answered " + got + ", due is " + want);
        }
    }

    static void holds(String claim, boolean so) {
        is(claim, so ? 1 : 0, 1);
    }

    static void feed(EdgeEchoes x, String text) {
        for (int i = 0; i < text.length(); i++) {
            x.feed(text.charAt(i));
        }
    }

    static int told(EdgeEchoes x, String text) {
        feed(x, text);
        return x.line();
    }

    static EdgeEchoes lineOf(String text) {
        EdgeEchoes x = new EdgeEchoes();
        holds("line of " + text, told(x, text) >= 0);
        return x;
    }

    /** All that there is and can be read without a trial, so that a refused call can be shown to change nothing. */
    static String all(EdgeEchoes x) {
        StringBuilder s = new StringBuilder();
        for (int what = 0; what <= 11; what++) {
            s.append(x.told(what)).append(' ');
        }
        for (int what = 15; what <= 17; what++) {
            s.append(x.told(what)).append(' ');
        }
        int pieces = x.told(1);
        for (int p = 0; p <= pieces; p++) {
            s.append(x.wire(p, 0)).append(' ').append(x.wire(p, 1)).append(' ').append(x.wire(p, 2)).append(' ');
        }
        int cells = x.told(2);
        for (int i = 0; i <= cells; i++) {
            s.append(x.cell(i, 1)).append(' ').append(x.cell(i, 2)).append(' ').append(x.place(i + 1)).append(' ');
        }
        int gates = x.told(3);
        for (int g = 0; g <= gates; g++) {
            for (int what = 0; what <= 4; what++) {
                s.append(x.gate(g, what)).append(' ');
            }
        }
        return s.toString();
    }

    static void end() {
        System.out.println(asked + " answers asked, " + wrong + " wrong");
        if (wrong != 0 || asked == 0) {
            System.exit(1);
        }
    }
}
