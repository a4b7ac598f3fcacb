import java.util.ArrayDeque;
import java.util.ArrayList;
import java.util.Deque;
import java.util.HashMap;
import java.util.List;
import java.util.Map;

/** The document told a second time, as plainly as the Java library allows and with no thought of speed. */
final class PlainModel {
    static final int NONE = -1, UNKNOWN = -1000000001, OUTSIDE = -1000000002, NOT = -1000000003, FULL = -1000000004;

    /** A gate with all that it saw since the line was last quiet. */
    static final class Gate {
        int kind, cell, h, sees, edges;
        List<Boolean> reached = new ArrayList<>();

        Gate copy() {
            Gate o = new Gate();
            o.kind = kind;
            o.cell = cell;
            o.h = h;
            o.sees = sees;
            o.edges = edges;
            o.reached = new ArrayList<>(reached);
            return o;
        }

        void watch(long v) {
            boolean high = v >= 1000L * h;
            reached.add(high);
            int next = sees;
            if (kind == 0) {
                next = high ? 1 : 0;
            } else if (kind == 1) {
                next = high ? 1 : 2 * v < 1000L * h ? 0 : sees;
            } else if (kind == 2) {
                int n = reached.size();
                boolean turned = n >= 3;
                for (int k = 1; k <= 3 && turned; k++) {
                    turned = reached.get(n - k) != (sees == 1);
                }
                next = turned ? 1 - sees : sees;
            } else {
                next = high ? 0 : 1;
            }
            if (next != sees) {
                edges = Math.min(9999, edges + 1);
            }
            sees = next;
        }
    }

    static final class State {
        boolean line, high;
        int r, v, endKind, endR, ticks;
        List<int[]> pieces = new ArrayList<>();
        List<Gate> gates = new ArrayList<>();
        long[] on = new long[0], back = new long[0];
        Map<Integer, Integer> places = new HashMap<>();

        int cells() {
            return on.length;
        }

        State copy() {
            State o = new State();
            o.line = line;
            o.high = high;
            o.r = r;
            o.v = v;
            o.endKind = endKind;
            o.endR = endR;
            o.ticks = ticks;
            for (int[] p : pieces) {
                o.pieces.add(p.clone());
            }
            for (Gate g : gates) {
                o.gates.add(g.copy());
            }
            o.on = on.clone();
            o.back = back.clone();
            o.places = new HashMap<>(places);
            return o;
        }

        long z(int cell) {
            int c = 0;
            for (int[] p : pieces) {
                c += p[1];
                if (cell < c) {
                    return p[0];
                }
            }
            throw new IllegalStateException();
        }

        boolean hasPlace(int i) {
            return i >= 1 && i <= cells() - 1;
        }

        int place(int i) {
            return places.getOrDefault(i, 0);
        }

        long volts(int i) {
            return i < cells() ? on[i] + back[i] : 0;
        }

        State quiet() {
            State o = copy();
            o.on = new long[cells()];
            o.back = new long[cells()];
            for (Gate g : o.gates) {
                g.sees = 0;
                g.edges = 0;
                g.reached.clear();
            }
            return o;
        }

        State risen() {
            State o = quiet();
            o.high = true;
            return o;
        }

        static long bound(long w) {
            return w > 400000 ? 400000 : w < -400000 ? -400000 : w;
        }

        State ticked() {
            State o = copy();
            int n = cells();
            for (int i = 1; i < n; i++) {
                long a = on[i - 1], b = back[i], y = z(i - 1), z = z(i);
                long toBack = (a * (z - y) + 2 * y * b) / (y + z);
                long toOn = (2 * z * a + b * (y - z)) / (y + z);
                if (place(i) == 1) {
                    toBack = a;
                    toOn = b;
                } else if (place(i) == 2) {
                    toBack = -a;
                    toOn = -b;
                }
                o.back[i - 1] = bound(toBack);
                o.on[i] = bound(toOn);
            }
            if (n > 0) {
                long s = high ? 1000L * v : 0;
                o.on[0] = bound((z(0) * s + (r - z(0)) * back[0]) / (r + z(0)));
                long a = on[n - 1], z = z(n - 1);
                o.back[n - 1] = bound(endKind == 0 ? a : endKind == 1 ? -a : a * (endR - z) / (endR + z));
            }
            for (Gate g : o.gates) {
                g.watch(o.volts(g.cell));
            }
            o.ticks++;
            return o;
        }

        State ticked(int n) {
            State o = this;
            for (int k = 0; k < n; k++) {
                o = o.ticked();
            }
            return o;
        }

        /** The states behind 0 to n ticks. */
        List<State> run(int n) {
            List<State> all = new ArrayList<>();
            State o = this;
            for (int k = 0; k <= n; k++) {
                all.add(o);
                o = o.ticked();
            }
            return all;
        }
    }

    private String text = "";
    private int fault = NONE;
    private State now = new State();
    private long seed = 0;
    private final List<int[]> seen = new ArrayList<>();
    private final List<int[]> book = new ArrayList<>();
    private final Deque<State> undone = new ArrayDeque<>();
    private final State[] images = new State[2];
    private final long[] imageSeeds = new long[2];

    private static boolean in(int v, int low, int high) {
        return low <= v && v <= high;
    }

    int feed(int letter) {
        if (!in(letter, 0, 255)) {
            return OUTSIDE;
        }
        if (text.length() == 240) {
            return FULL;
        }
        text += (char) letter;
        return text.length();
    }

    // The reading: the shape of a clause as a row of what is due, one token after another.

    private static final class Fault extends RuntimeException {
        private static final long serialVersionUID = 1;
        final int kind, letter;

        Fault(int kind, int letter) {
            this.kind = kind;
            this.letter = letter;
        }
    }

    private static State read(String text) {
        State s = new State();
        Map<Character, Integer> words = new HashMap<>();
        Map<Character, int[][]> bounds = Map.of(
            'd', new int[][] {{0, 99}, {1, 99}},
            'p', new int[][] {{1, 99}, {1, 9}},
            'e', new int[][] {{0, 2}, {1, 99}},
            'g', new int[][] {{0, 3}, {0, 71}, {1, 99}});
        Map<Character, Integer> most = Map.of('d', 1, 'p', 8, 'e', 1, 'g', 6);
        char word = 0;
        List<Integer> numbers = new ArrayList<>();
        int i = 0;
        while (i < text.length()) {
            char c = text.charAt(i);
            if (c == ' ') {
                i++;
            } else if (word == 0) {
                if (!bounds.containsKey(c) || (words.isEmpty() && c != 'd')) {
                    throw new Fault(1, i);
                }
                if (words.merge(c, 1, Integer::sum) > most.get(c)) {
                    throw new Fault(3, i);
                }
                word = c;
                i++;
            } else if (numbers.size() == bounds.get(word).length) {
                if (c != ';') {
                    throw new Fault(1, i);
                }
                take(s, word, numbers);
                word = 0;
                numbers = new ArrayList<>();
                i++;
            } else {
                int k = i;
                while (k < text.length() && Character.isDigit(text.charAt(k)) && text.charAt(k) < 128) {
                    k++;
                }
                if (k == i) {
                    throw new Fault(1, i);
                }
                int[] b = bounds.get(word)[numbers.size()];
                if (k - i > 3 || !in(Integer.parseInt(text.substring(i, k)), b[0], b[1])) {
                    throw new Fault(2, i);
                }
                numbers.add(Integer.parseInt(text.substring(i, k)));
                i = k;
            }
        }
        if (word != 0) {
            throw new Fault(1, text.length());
        }
        int n = s.pieces.stream().mapToInt(p -> p[1]).sum();
        s.on = new long[n];
        s.back = new long[n];
        return s;
    }

    private static void take(State s, char word, List<Integer> numbers) {
        if (word == 'd') {
            s.line = true;
            s.r = numbers.get(0);
            s.v = numbers.get(1);
        } else if (word == 'p') {
            s.pieces.add(new int[] {numbers.get(0), numbers.get(1)});
        } else if (word == 'e') {
            s.endKind = numbers.get(0);
            s.endR = numbers.get(1);
        } else {
            Gate g = new Gate();
            g.kind = numbers.get(0);
            g.cell = numbers.get(1);
            g.h = numbers.get(2);
            s.gates.add(g);
        }
    }

    int line() {
        String t = text;
        text = "";
        try {
            now = read(t);
        } catch (Fault f) {
            fault = f.letter;
            return -10 - f.kind;
        }
        fault = NONE;
        seen.clear();
        book.clear();
        undone.clear();
        images[0] = null;
        images[1] = null;
        return now.cells();
    }

    int fault() {
        return fault;
    }

    int told(int what) {
        switch (what) {
            case 0: return now.line ? 1 : 0;
            case 1: return now.pieces.size();
            case 2: return now.cells();
            case 3: return now.gates.size();
            case 4: return text.length();
            case 15: return seen.size();
            case 16: return book.size();
            case 17: return undone.size();
            default: break;
        }
        if (!in(what, 0, 17)) {
            return OUTSIDE;
        }
        if (!now.line) {
            return what == 14 ? NONE : 0;
        }
        switch (what) {
            case 5: return now.r;
            case 6: return now.v;
            case 7: return now.high ? 1 : 0;
            case 8: return now.endKind;
            case 9: return now.endKind == 2 ? now.endR : 0;
            case 10: return now.ticks;
            case 11:
                int set = 0;
                for (int g = 0; g < now.gates.size(); g++) {
                    set += now.gates.get(g).sees << g;
                }
                return set;
            case 12: return over(now.r);
            case 13:
                int best = 0;
                for (int r = 1; r <= 99; r++) {
                    best = over(r) < over(best) ? r : best;
                }
                return best;
            default:
                List<State> all = now.risen().run(200);
                for (int k = 1; k <= 200; k++) {
                    if (now.cells() > 0 && all.get(k).back[0] != 0) {
                        return k;
                    }
                }
                return NONE;
        }
    }

    private int over(int r) {
        State s = now.risen();
        s.r = r;
        long over = 0;
        if (s.cells() > 0) {
            for (State o : s.run(200)) {
                over = Math.max(over, o.volts(o.cells() - 1) - 1000L * o.v);
            }
        }
        return (int) over;
    }

    int wire(int p, int what) {
        if (!in(p, 0, now.pieces.size() - 1)) {
            return UNKNOWN;
        }
        if (!in(what, 0, 2)) {
            return OUTSIDE;
        }
        if (what < 2) {
            return now.pieces.get(p)[what];
        }
        return now.pieces.subList(0, p).stream().mapToInt(q -> q[1]).sum();
    }

    int cell(int i, int what) {
        if (!in(i, 0, 71) || !in(what, 0, 2)) {
            return OUTSIDE;
        }
        if (i >= now.cells()) {
            return 1000000;
        }
        return 1000000 + (int) (what == 0 ? now.volts(i) : what == 1 ? now.on[i] : now.back[i]);
    }

    int place(int i) {
        return !in(i, 1, 71) ? OUTSIDE : !now.hasPlace(i) ? NONE : now.place(i);
    }

    int gate(int g, int what) {
        if (!in(g, 0, now.gates.size() - 1)) {
            return UNKNOWN;
        }
        Gate gate = now.gates.get(g);
        switch (what) {
            case 0: return gate.kind;
            case 1: return gate.cell;
            case 2: return gate.h;
            case 3: return gate.sees;
            case 4: return gate.edges;
            case 5:
                List<State> all = now.run(200);
                for (int k = 0; k <= 200; k++) {
                    if (all.get(k).gates.get(g).sees == 1) {
                        return k;
                    }
                }
                return NONE;
            default: return OUTSIDE;
        }
    }

    private void deed(State next) {
        undone.addLast(now);
        if (undone.size() > 12) {
            undone.removeFirst();
        }
        now = next;
    }

    int tick(int n) {
        if (!in(n, 1, 50)) {
            return OUTSIDE;
        }
        if (!now.line) {
            return NOT;
        }
        deed(now.ticked(n));
        return now.ticks;
    }

    int drive(boolean high) {
        if (!now.line) {
            return NOT;
        }
        int was = now.high ? 1 : 0;
        deed(now.copy());
        now.high = high;
        return was;
    }

    private int turn(int i, int to) {
        if (!in(i, 1, 71)) {
            return OUTSIDE;
        }
        if (!now.hasPlace(i) || now.place(i) == to) {
            return NOT;
        }
        int was = now.place(i);
        deed(now.copy());
        now.places.put(i, to);
        return was;
    }

    int cut(int i) {
        return turn(i, 1);
    }

    int brief(int i) {
        return turn(i, 2);
    }

    int mend(int i) {
        return turn(i, 0);
    }

    int piece(int p, int z) {
        if (!in(p, 0, now.pieces.size() - 1)) {
            return UNKNOWN;
        }
        if (!in(z, 1, 99)) {
            return OUTSIDE;
        }
        deed(now.copy());
        int was = now.pieces.get(p)[0];
        now.pieces.get(p)[0] = z;
        return was;
    }

    int end(int k, int r) {
        if (!in(k, 0, 2) || k == 2 && !in(r, 1, 99)) {
            return OUTSIDE;
        }
        if (!now.line) {
            return NOT;
        }
        int was = now.endKind;
        deed(now.copy());
        now.endKind = k;
        now.endR = r;
        return was;
    }

    int ohms(int r) {
        if (!in(r, 0, 99)) {
            return OUTSIDE;
        }
        if (!now.line) {
            return NOT;
        }
        int was = now.r;
        deed(now.copy());
        now.r = r;
        return was;
    }

    int quiet() {
        if (!now.line) {
            return NOT;
        }
        int edges = now.gates.stream().mapToInt(g -> g.edges).sum();
        deed(now.quiet());
        return edges;
    }

    private int draw(int n) {
        seed = (seed * 1103515245L + 12345) % (1L << 31);
        return (int) (seed / 65536 % n);
    }

    int drift(int n) {
        if (!in(n, 1, 50)) {
            return OUTSIDE;
        }
        if (!now.line) {
            return NOT;
        }
        State s = now.copy();
        for (int k = 0; k < n; k++) {
            int d = draw(8);
            if (d == 0 || d == 1) {
                s.high = true;
            } else if (d == 2) {
                s.high = false;
            } else if (d == 3 && s.cells() > 1) {
                int i = draw(s.cells() - 1) + 1;
                s.places.put(i, s.place(i) == 0 ? 1 : 0);
            }
            s = s.ticked();
        }
        deed(s);
        return now.ticks;
    }

    int undo(int n) {
        if (!in(n, 1, 12)) {
            return OUTSIDE;
        }
        if (undone.size() < n) {
            return NOT;
        }
        for (int k = 0; k < n; k++) {
            now = undone.removeLast();
        }
        return now.ticks;
    }

    int volts(int i, int n, int what) {
        if (!in(i, 0, 71) || !in(n, 0, 200) || !in(what, 0, 2)) {
            return OUTSIDE;
        }
        long[] row = now.run(n).stream().mapToLong(s -> s.volts(i)).toArray();
        long v = row[n];
        for (long w : row) {
            v = what == 1 ? Math.max(v, w) : what == 2 ? Math.min(v, w) : v;
        }
        return (int) (1000000 + v);
    }

    int rest(int i) {
        if (!in(i, 0, 71)) {
            return OUTSIDE;
        }
        long[] row = now.run(200).stream().mapToLong(s -> s.volts(i)).toArray();
        int rest = 0;
        for (int k = 0; k <= 200; k++) {
            if (Math.abs(row[k] - row[200]) > 20) {
                rest = k + 1;
            }
        }
        return rest;
    }

    int sees(int g, int n, int what) {
        if (!in(g, 0, now.gates.size() - 1)) {
            return UNKNOWN;
        }
        if (!in(n, 0, 200) || !in(what, 0, 1)) {
            return OUTSIDE;
        }
        Gate then = now.ticked(n).gates.get(g);
        return what == 0 ? then.sees : then.edges - now.gates.get(g).edges;
    }

    int noNoise(int n, int q) {
        if (!in(n, 0, 60) || !in(q, 0, 100)) {
            return OUTSIDE;
        }
        long odds = 1000000000L;
        for (int k = 0; k < n; k++) {
            odds = odds * q / 100;
        }
        return (int) odds;
    }

    int see(int t, int v, boolean is) {
        if (!in(t, 1, 150) || !in(v, 0, 99000)) {
            return OUTSIDE;
        }
        if (seen.size() == 6) {
            return FULL;
        }
        seen.add(new int[] {t, v, is ? 1 : 0});
        return seen.size();
    }

    /** Each fault that fits, with the volts of cell 0 behind each tick. */
    private Map<Integer, long[]> fits(int ticks) {
        Map<Integer, long[]> all = new java.util.TreeMap<>();
        for (int f = 2; f <= 143; f++) {
            if (!now.hasPlace(f / 2) || now.place(f / 2) != 0) {
                continue;
            }
            State s = now.risen();
            s.places.put(f / 2, 1 + f % 2);
            long[] row = s.run(ticks).stream().mapToLong(o -> o.volts(0)).toArray();
            if (seen.stream().allMatch(e -> (row[e[0]] >= e[1]) == (e[2] == 1))) {
                all.put(f, row);
            }
        }
        return all;
    }

    private int mostSeenTick() {
        return seen.stream().mapToInt(e -> e[0]).max().orElse(0);
    }

    int couldBe(int what) {
        if (!in(what, 0, 2)) {
            return OUTSIDE;
        }
        List<Integer> all = new ArrayList<>(fits(mostSeenTick()).keySet());
        if (what == 0) {
            return all.size();
        }
        return all.isEmpty() ? NONE : all.get(what == 1 ? 0 : all.size() - 1);
    }

    int look() {
        Map<Integer, long[]> all = fits(Math.max(60, mostSeenTick()));
        int best = NONE;
        int least = all.size();
        for (int t = 1; t <= 60; t++) {
            Map<Long, Integer> parts = new HashMap<>();
            for (long[] row : all.values()) {
                parts.merge(row[t], 1, Integer::sum);
            }
            int most = parts.values().stream().mapToInt(k -> k).max().orElse(0);
            if (most < least) {
                least = most;
                best = t;
            }
        }
        return best;
    }

    int write(int g, int edges) {
        if (!in(g, 0, now.gates.size() - 1)) {
            return UNKNOWN;
        }
        if (!in(edges, 0, 9999)) {
            return OUTSIDE;
        }
        if (book.size() == 20) {
            return FULL;
        }
        book.add(new int[] {g, edges});
        return book.size();
    }

    int judge() {
        for (int k = 0; k < book.size(); k++) {
            if (now.gates.get(book.get(k)[0]).edges != book.get(k)[1]) {
                return k;
            }
        }
        return NONE;
    }

    int tear() {
        int had = seen.size() + book.size();
        seen.clear();
        book.clear();
        return had;
    }

    int seed(int v) {
        if (v < 0) {
            return OUTSIDE;
        }
        int was = (int) seed;
        seed = v;
        return was;
    }

    int keep(int i) {
        if (!in(i, 0, 1)) {
            return UNKNOWN;
        }
        images[i] = now.copy();
        imageSeeds[i] = seed;
        undone.clear();
        return 1;
    }

    int goBack(int i) {
        if (!in(i, 0, 1)) {
            return UNKNOWN;
        }
        if (images[i] == null) {
            return NOT;
        }
        now = images[i].copy();
        seed = imageSeeds[i];
        undone.clear();
        return 1;
    }
}
