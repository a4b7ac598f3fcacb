import java.util.Arrays;

/**
 * Edges that run along a line of wires and back: what each cell carries, what gates see of it,
 * and where a fault may lie. The document's promises say what each call answers.
 */
public final class EdgeEchoes {
    public static final int NONE = -1, UNKNOWN = -1000000001, OUTSIDE = -1000000002, NOT = -1000000003, FULL = -1000000004;

    private static final int MAX_LETTERS = 240;
    private static final int MAX_PIECES = 8;
    private static final int MAX_CELLS = 72;
    private static final int MAX_GATES = 6;
    private static final int MAX_OHMS = 99;
    private static final int MAX_WAVE = 400000;
    private static final int MAX_EDGES = 9999;
    private static final int MAX_DEEDS = 12;
    private static final int MAX_SEEN = 6;
    private static final int MAX_SEEN_TICK = 150;
    private static final int MAX_SEEN_VOLTS = 99000;
    private static final int MAX_ENTRIES = 20;
    private static final int MAX_PASSED = 50;
    private static final int MAX_TRIED = 200;
    private static final int MAX_LOOK = 60;
    private static final int MAX_NOISE = 60;
    private static final int MAX_SUSPECTS = 2 * (MAX_CELLS - 1);
    private static final int IMAGES = 2;
    private static final int LAST_TICK = 90000;
    private static final int NEAR_REST = 20;
    private static final int SLOW_TICKS = 3;
    private static final int THOUSAND = 1000;
    private static final int MILLION = 1000000;
    private static final int BILLION = 1000000000;
    private static final int NO_LIMIT = 2147483647;

    private static final int WHOLE = 0;
    private static final int CUT = 1;
    private static final int SHORT = 2;

    private static final int END_OPEN = 0;
    private static final int END_SHORT = 1;
    private static final int END_OHMS = 2;

    private static final int GATE_PLAIN = 0;
    private static final int GATE_HOLDS = 1;
    private static final int GATE_SLOW = 2;

    private final Text text = new Text();
    private final Line now = new Line();
    private final Trial trial = new Trial();
    private final Past past = new Past();
    private final Suspects suspects = new Suspects();
    private final Book book = new Book();
    private final Image[] images = new Image[IMAGES];
    private int faultLetter = NONE;
    private int drawn = 0;

    public EdgeEchoes() {
        for (int i = 0; i < IMAGES; i++) {
            images[i] = new Image();
        }
    }

    // ---- the line

    public int feed(int letter) {
        if (letter < 0 || letter > 255) {
            return OUTSIDE;
        }
        return text.append(letter) ? text.count : FULL;
    }

    public int line() {
        // The draft is the trial's line, so that a text with a fault leaves what is so alone.
        Line draft = trial.line;
        int kind = text.readInto(draft);
        text.count = 0;
        if (kind != 0) {
            faultLetter = text.at;
            return -10 - kind;
        }
        faultLetter = NONE;
        now.copyFrom(draft);
        past.count = 0;
        suspects.count = 0;
        book.count = 0;
        for (int i = 0; i < IMAGES; i++) {
            images[i].kept = false;
        }
        return now.wire.cells;
    }

    public int fault() {
        return faultLetter;
    }

    public int told(int what) {
        switch (what) {
            case 0: return now.told ? 1 : 0;
            case 1: return now.wire.pieces;
            case 2: return now.wire.cells;
            case 3: return now.gates.count;
            case 4: return text.count;
            case 5: return now.wire.driverOhms;
            case 6: return now.wire.driverVolts;
            case 7: return now.wire.high ? 1 : 0;
            case 8: return now.wire.endKind;
            case 9: return now.wire.endOhms;
            case 10: return now.ticks;
            case 11: return now.gates.sightSet();
            case 12: return trial.overOf(now, now.wire.driverOhms, NO_LIMIT);
            case 13: return trial.bestDriverOf(now);
            case 14: return trial.firstBackOf(now);
            case 15: return suspects.count;
            case 16: return book.count;
            case 17: return past.count;
            default: return OUTSIDE;
        }
    }

    public int wire(int p, int what) {
        if (!now.wire.hasPiece(p)) {
            return UNKNOWN;
        }
        switch (what) {
            case 0: return now.wire.pieceOhms[p];
            case 1: return now.wire.pieceCells[p];
            case 2: return now.wire.firstCellOf(p);
            default: return OUTSIDE;
        }
    }

    public int cell(int i, int what) {
        if (i < 0 || i >= MAX_CELLS || what < 0 || what > 2) {
            return OUTSIDE;
        }
        switch (what) {
            case 0: return MILLION + now.wire.voltsAt(i);
            case 1: return MILLION + now.wire.on[i];
            default: return MILLION + now.wire.back[i];
        }
    }

    public int place(int i) {
        if (!isPlaceNumber(i)) {
            return OUTSIDE;
        }
        return now.wire.hasPlace(i) ? now.wire.places[i] : NONE;
    }

    public int gate(int g, int what) {
        if (!now.gates.has(g)) {
            return UNKNOWN;
        }
        switch (what) {
            case 0: return now.gates.kind[g];
            case 1: return now.gates.cell[g];
            case 2: return now.gates.volts[g];
            case 3: return now.gates.sight[g];
            case 4: return now.gates.edges[g];
            case 5: return trial.firstOneOf(now, g);
            default: return OUTSIDE;
        }
    }

    // ---- deeds

    public int tick(int n) {
        int refusal = refusalToPass(n);
        if (refusal != 0) {
            return refusal;
        }
        past.remember(now);
        for (int k = 0; k < n; k++) {
            now.pass();
        }
        return now.ticks;
    }

    public int drive(boolean high) {
        if (!now.told) {
            return NOT;
        }
        past.remember(now);
        int was = now.wire.high ? 1 : 0;
        now.wire.high = high;
        return was;
    }

    public int cut(int i) {
        return turnPlace(i, CUT);
    }

    public int brief(int i) {
        return turnPlace(i, SHORT);
    }

    public int mend(int i) {
        return turnPlace(i, WHOLE);
    }

    public int piece(int p, int z) {
        if (!now.wire.hasPiece(p)) {
            return UNKNOWN;
        }
        if (z < 1 || z > MAX_OHMS) {
            return OUTSIDE;
        }
        past.remember(now);
        int was = now.wire.pieceOhms[p];
        now.wire.changePiece(p, z);
        return was;
    }

    public int end(int k, int r) {
        if (k < END_OPEN || k > END_OHMS || (k == END_OHMS && (r < 1 || r > MAX_OHMS))) {
            return OUTSIDE;
        }
        if (!now.told) {
            return NOT;
        }
        past.remember(now);
        int was = now.wire.endKind;
        now.wire.changeEnd(k, r);
        return was;
    }

    public int ohms(int r) {
        if (r < 0 || r > MAX_OHMS) {
            return OUTSIDE;
        }
        if (!now.told) {
            return NOT;
        }
        past.remember(now);
        int was = now.wire.driverOhms;
        now.wire.driverOhms = r;
        return was;
    }

    public int quiet() {
        if (!now.told) {
            return NOT;
        }
        past.remember(now);
        int was = now.gates.allEdges();
        now.calm();
        return was;
    }

    public int drift(int n) {
        int refusal = refusalToPass(n);
        if (refusal != 0) {
            return refusal;
        }
        past.remember(now);
        for (int k = 0; k < n; k++) {
            driftOnce();
        }
        return now.ticks;
    }

    public int undo(int n) {
        if (n < 1 || n > MAX_DEEDS) {
            return OUTSIDE;
        }
        if (n > past.count) {
            return NOT;
        }
        past.bringBack(now, n);
        return now.ticks;
    }

    // ---- tried

    public int volts(int i, int n, int what) {
        if (i < 0 || i >= MAX_CELLS || n < 0 || n > MAX_TRIED) {
            return OUTSIDE;
        }
        switch (what) {
            case 0: return MILLION + trial.voltsBehind(now, i, n);
            case 1: return MILLION + trial.peakUpTo(now, i, n);
            case 2: return MILLION + trial.leastUpTo(now, i, n);
            default: return OUTSIDE;
        }
    }

    public int rest(int i) {
        if (i < 0 || i >= MAX_CELLS) {
            return OUTSIDE;
        }
        return trial.restOf(now, i);
    }

    public int sees(int g, int n, int what) {
        if (!now.gates.has(g)) {
            return UNKNOWN;
        }
        if (n < 0 || n > MAX_TRIED || what < 0 || what > 1) {
            return OUTSIDE;
        }
        trial.goOn(now, n);
        if (what == 0) {
            return trial.line.gates.sight[g];
        }
        return trial.line.gates.edges[g] - now.gates.edges[g];
    }

    public int noNoise(int n, int q) {
        if (n < 0 || n > MAX_NOISE || q < 0 || q > 100) {
            return OUTSIDE;
        }
        long odds = BILLION;
        for (int k = 0; k < n; k++) {
            odds = odds * q / 100;
        }
        return (int) odds;
    }

    // ---- what is seen

    public int see(int t, int v, boolean is) {
        if (t < 1 || t > MAX_SEEN_TICK || v < 0 || v > MAX_SEEN_VOLTS) {
            return OUTSIDE;
        }
        return suspects.append(t, v, is) ? suspects.count : FULL;
    }

    public int couldBe(int what) {
        if (what < 0 || what > 2) {
            return OUTSIDE;
        }
        suspects.gather(now, trial, false);
        switch (what) {
            case 0: return suspects.fitting;
            case 1: return suspects.least;
            default: return suspects.greatest;
        }
    }

    public int look() {
        suspects.gather(now, trial, true);
        return suspects.bestLook();
    }

    public int write(int g, int edges) {
        if (!now.gates.has(g)) {
            return UNKNOWN;
        }
        if (edges < 0 || edges > MAX_EDGES) {
            return OUTSIDE;
        }
        return book.append(g, edges) ? book.count : FULL;
    }

    public int judge() {
        return book.firstWrong(now.gates);
    }

    public int tear() {
        int had = suspects.count + book.count;
        suspects.count = 0;
        book.count = 0;
        return had;
    }

    // ---- images

    public int seed(int v) {
        if (v < 0) {
            return OUTSIDE;
        }
        int was = drawn;
        drawn = v;
        return was;
    }

    public int keep(int i) {
        if (i < 0 || i >= IMAGES) {
            return UNKNOWN;
        }
        images[i].line.copyFrom(now);
        images[i].seed = drawn;
        images[i].kept = true;
        past.count = 0;
        return 1;
    }

    public int goBack(int i) {
        if (i < 0 || i >= IMAGES) {
            return UNKNOWN;
        }
        if (!images[i].kept) {
            return NOT;
        }
        now.copyFrom(images[i].line);
        drawn = images[i].seed;
        past.count = 0;
        return 1;
    }

    // ---- what several calls share

    private static boolean isPlaceNumber(int i) {
        return i >= 1 && i < MAX_CELLS;
    }

    /** What tick() and drift() refuse alike; 0 if nothing. */
    private int refusalToPass(int n) {
        if (n < 1 || n > MAX_PASSED) {
            return OUTSIDE;
        }
        if (!now.told) {
            return NOT;
        }
        return now.ticks > LAST_TICK ? FULL : 0;
    }

    private int turnPlace(int i, int state) {
        if (!isPlaceNumber(i)) {
            return OUTSIDE;
        }
        if (!now.wire.hasPlace(i) || now.wire.places[i] == state) {
            return NOT;
        }
        past.remember(now);
        int was = now.wire.places[i];
        now.wire.places[i] = state;
        return was;
    }

    private int draw(int n) {
        drawn = (int) ((drawn * 1103515245L + 12345L) & 2147483647L);
        return n < 1 ? 0 : drawn / 65536 % n;
    }

    private void driftOnce() {
        int chance = draw(8);
        if (chance <= 1) {
            now.wire.high = true;
        } else if (chance == 2) {
            now.wire.high = false;
        } else if (chance == 3 && now.wire.cells > 1) {
            int i = draw(now.wire.cells - 1) + 1;
            if (now.wire.hasPlace(i)) {
                now.wire.places[i] = now.wire.places[i] == WHOLE ? CUT : WHOLE;
            }
        }
        now.pass();
    }

    /** Pieces, waves, places, driver and end: all that a tick moves or reads, but for the gates. */
    private static final class Wire {
        final int[] pieceOhms = new int[MAX_PIECES];
        final int[] pieceCells = new int[MAX_PIECES];
        final int[] cellOhms = new int[MAX_CELLS];
        final int[] on = new int[MAX_CELLS];
        final int[] back = new int[MAX_CELLS];
        final int[] places = new int[MAX_CELLS];
        int pieces;
        int cells;
        int driverOhms;
        int driverVolts;
        int endKind;
        int endOhms;
        boolean high;

        void clear() {
            Arrays.fill(pieceOhms, 0);
            Arrays.fill(pieceCells, 0);
            Arrays.fill(cellOhms, 0);
            Arrays.fill(places, WHOLE);
            calmWaves();
            pieces = 0;
            cells = 0;
            driverOhms = 0;
            driverVolts = 0;
            endKind = END_OPEN;
            endOhms = 0;
            high = false;
        }

        void copyFrom(Wire other) {
            System.arraycopy(other.pieceOhms, 0, pieceOhms, 0, MAX_PIECES);
            System.arraycopy(other.pieceCells, 0, pieceCells, 0, MAX_PIECES);
            System.arraycopy(other.cellOhms, 0, cellOhms, 0, MAX_CELLS);
            System.arraycopy(other.on, 0, on, 0, MAX_CELLS);
            System.arraycopy(other.back, 0, back, 0, MAX_CELLS);
            System.arraycopy(other.places, 0, places, 0, MAX_CELLS);
            pieces = other.pieces;
            cells = other.cells;
            driverOhms = other.driverOhms;
            driverVolts = other.driverVolts;
            endKind = other.endKind;
            endOhms = other.endOhms;
            high = other.high;
        }

        void calmWaves() {
            Arrays.fill(on, 0);
            Arrays.fill(back, 0);
        }

        boolean hasPiece(int p) {
            return p >= 0 && p < pieces && p < MAX_PIECES;
        }

        boolean hasPlace(int i) {
            return i >= 1 && i < cells && i < MAX_CELLS;
        }

        void addPiece(int z, int length) {
            if (pieces >= MAX_PIECES || length < 0 || length > MAX_CELLS - cells) {
                return;
            }
            pieceCells[pieces] = length;
            pieces++;
            cells += length;
            changePiece(pieces - 1, z);
        }

        int firstCellOf(int p) {
            int first = 0;
            for (int k = 0; k < p && k < MAX_PIECES; k++) {
                first += pieceCells[k];
            }
            return first;
        }

        void changePiece(int p, int z) {
            if (!hasPiece(p)) {
                return;
            }
            pieceOhms[p] = z;
            int first = firstCellOf(p);
            for (int i = first; i < first + pieceCells[p] && i < MAX_CELLS; i++) {
                cellOhms[i] = z;
            }
        }

        void changeEnd(int kind, int r) {
            endKind = kind;
            endOhms = kind == END_OHMS ? r : 0;
        }

        int sourceVolts() {
            return high ? driverVolts * THOUSAND : 0;
        }

        /** 0 where there is no such cell: waves beyond the last cell are never moved. */
        int voltsAt(int i) {
            return i >= 0 && i < cells && i < MAX_CELLS ? on[i] + back[i] : 0;
        }

        /** Each old wave is read just before it is overwritten, so no second row is needed. */
        void step() {
            if (cells < 1 || cells > MAX_CELLS) {
                return;
            }
            int z = cellOhms[0];
            int coming = on[0];
            on[0] = shared(z * sourceVolts() + (driverOhms - z) * back[0], driverOhms + z);
            for (int i = 1; i < cells; i++) {
                int a = coming;
                int b = back[i];
                coming = on[i];
                if (places[i] == WHOLE && cellOhms[i - 1] == cellOhms[i]) {
                    // Like ohms send nothing back: the shares would come out the same, but dearer.
                    back[i - 1] = b;
                    on[i] = a;
                } else {
                    part(i, a, b);
                }
            }
            back[cells - 1] = thrownBack(coming);
        }

        /** What of two waves that meet at a place goes on, and what runs back. */
        private void part(int i, int a, int b) {
            if (!hasPlace(i)) {
                return;
            }
            if (places[i] == CUT) {
                back[i - 1] = a;
                on[i] = b;
            } else if (places[i] == SHORT) {
                back[i - 1] = -a;
                on[i] = -b;
            } else {
                int y = cellOhms[i - 1];
                int z = cellOhms[i];
                back[i - 1] = shared(a * (z - y) + 2 * y * b, y + z);
                on[i] = shared(2 * z * a + b * (y - z), y + z);
            }
        }

        private int thrownBack(int a) {
            if (endKind == END_OPEN) {
                return a;
            }
            if (endKind == END_SHORT) {
                return -a;
            }
            int z = cells >= 1 && cells <= MAX_CELLS ? cellOhms[cells - 1] : 0;
            return shared(a * (endOhms - z), endOhms + z);
        }

        private static int shared(int amount, int all) {
            if (all < 1) {
                return 0;
            }
            return Math.max(-MAX_WAVE, Math.min(MAX_WAVE, amount / all));
        }
    }

    /** The gates of a line, with what they see and how often that changed. */
    private static final class Gates {
        final int[] kind = new int[MAX_GATES];
        final int[] cell = new int[MAX_GATES];
        final int[] volts = new int[MAX_GATES];
        final int[] sight = new int[MAX_GATES];
        final int[] edges = new int[MAX_GATES];
        final int[] otherwise = new int[MAX_GATES];
        int count;

        void clear() {
            Arrays.fill(kind, 0);
            Arrays.fill(cell, 0);
            Arrays.fill(volts, 0);
            calmSights();
            count = 0;
        }

        void copyFrom(Gates other) {
            System.arraycopy(other.kind, 0, kind, 0, MAX_GATES);
            System.arraycopy(other.cell, 0, cell, 0, MAX_GATES);
            System.arraycopy(other.volts, 0, volts, 0, MAX_GATES);
            System.arraycopy(other.sight, 0, sight, 0, MAX_GATES);
            System.arraycopy(other.edges, 0, edges, 0, MAX_GATES);
            System.arraycopy(other.otherwise, 0, otherwise, 0, MAX_GATES);
            count = other.count;
        }

        void calmSights() {
            Arrays.fill(sight, 0);
            Arrays.fill(edges, 0);
            Arrays.fill(otherwise, 0);
        }

        boolean has(int g) {
            return g >= 0 && g < count && g < MAX_GATES;
        }

        void add(int k, int c, int h) {
            if (count >= MAX_GATES) {
                return;
            }
            kind[count] = k;
            cell[count] = c;
            volts[count] = h;
            count++;
        }

        int sightSet() {
            int set = 0;
            for (int g = 0; g < count && g < MAX_GATES; g++) {
                set |= sight[g] << g;
            }
            return set;
        }

        int allEdges() {
            int all = 0;
            for (int g = 0; g < count && g < MAX_GATES; g++) {
                all += edges[g];
            }
            return all;
        }

        void watch(Wire wire) {
            for (int g = 0; g < count && g < MAX_GATES; g++) {
                int next = nextSight(g, wire.voltsAt(cell[g]));
                if (next != sight[g]) {
                    sight[g] = next;
                    edges[g] = Math.min(MAX_EDGES, edges[g] + 1);
                }
            }
        }

        private int nextSight(int g, int v) {
            if (!has(g)) {
                return 0;
            }
            int level = v >= volts[g] * THOUSAND ? 1 : 0;
            switch (kind[g]) {
                case GATE_PLAIN: return level;
                case GATE_HOLDS: return level == 1 || v < volts[g] * THOUSAND / 2 ? level : sight[g];
                case GATE_SLOW: return slowSight(g, level);
                default: return 1 - level;
            }
        }

        private int slowSight(int g, int level) {
            if (!has(g)) {
                return 0;
            }
            otherwise[g] = level == sight[g] ? 0 : otherwise[g] + 1;
            if (otherwise[g] < SLOW_TICKS) {
                return sight[g];
            }
            otherwise[g] = 0;
            return level;
        }
    }

    /** All of the document's section 2: what is tried, undone and kept as a whole. */
    private static final class Line {
        final Wire wire = new Wire();
        final Gates gates = new Gates();
        boolean told;
        int ticks;

        void clear() {
            wire.clear();
            gates.clear();
            told = false;
            ticks = 0;
        }

        void copyFrom(Line other) {
            wire.copyFrom(other.wire);
            gates.copyFrom(other.gates);
            told = other.told;
            ticks = other.ticks;
        }

        void calm() {
            wire.calmWaves();
            gates.calmSights();
        }

        void pass() {
            wire.step();
            gates.watch(wire);
            ticks++;
        }
    }

    /** The text as it is fed, and its reading up to the first fault. */
    private static final class Text {
        private static final String WORDS = "dpeg";
        private static final int DRIVER = 0;
        private static final int PIECE = 1;
        private static final int END = 2;
        private static final int MOST_NUMBERS = 3;
        private static final int MOST_FIGURES = 3;
        // Three places a word, in the order of WORDS; a word of two numbers leaves its third alone.
        private static final int[] NUMBERS = {2, 2, 2, 3};
        private static final int[] LEAST = {0, 1, 0, 1, 1, 0, 0, 1, 0, 0, 0, 1};
        private static final int[] GREATEST = {99, 99, 0, 99, 9, 0, 2, 99, 0, 3, 71, 99};

        private static final int STRAY = 1;
        private static final int BAD_NUMBER = 2;
        private static final int AGAIN = 3;

        final int[] letters = new int[MAX_LETTERS];
        final int[] numbers = new int[MOST_NUMBERS];
        int count;
        int at;
        boolean endTold;

        boolean append(int letter) {
            if (count < 0 || count >= MAX_LETTERS) {
                return false;
            }
            letters[count] = letter;
            count++;
            return true;
        }

        /** The number of the first fault, which is then at the letter that the reading is at; 0 if none. */
        int readInto(Line draft) {
            draft.clear();
            at = 0;
            endTold = false;
            skipBlanks();
            for (int clauses = 0; clauses < MAX_LETTERS && at < count; clauses++) {
                int kind = readClause(draft);
                if (kind != 0) {
                    return kind;
                }
                skipBlanks();
            }
            return 0;
        }

        private int readClause(Line draft) {
            int word = wordHere();
            if (word < 0 || word >= NUMBERS.length || (!draft.told && word != DRIVER)) {
                return STRAY;
            }
            if (isTooMany(word, draft)) {
                return AGAIN;
            }
            at++;
            for (int k = 0; k < NUMBERS[word] && k < MOST_NUMBERS; k++) {
                int kind = readNumber(word, k);
                if (kind != 0) {
                    return kind;
                }
            }
            skipBlanks();
            if (letterHere() != ';') {
                return STRAY;
            }
            at++;
            takeClause(word, draft);
            return 0;
        }

        private int wordHere() {
            int letter = letterHere();
            return letter < 0 ? NONE : WORDS.indexOf((char) letter);
        }

        private boolean isTooMany(int word, Line draft) {
            switch (word) {
                case DRIVER: return draft.told;
                case PIECE: return draft.wire.pieces >= MAX_PIECES;
                case END: return endTold;
                default: return draft.gates.count >= MAX_GATES;
            }
        }

        private int readNumber(int word, int k) {
            skipBlanks();
            int start = at;
            int figures = 0;
            int value = 0;
            while (at < count && isFigure(letterHere())) {
                figures++;
                if (figures <= MOST_FIGURES) {
                    value = value * 10 + letterHere() - '0';
                }
                at++;
            }
            if (figures == 0) {
                return STRAY;
            }
            int row = word * MOST_NUMBERS + k;
            if (figures > MOST_FIGURES || !isWithin(row, value)) {
                at = start;
                return BAD_NUMBER;
            }
            if (k >= 0 && k < MOST_NUMBERS) {
                numbers[k] = value;
            }
            return 0;
        }

        private static boolean isWithin(int row, int value) {
            return row >= 0 && row < LEAST.length && row < GREATEST.length
                && value >= LEAST[row] && value <= GREATEST[row];
        }

        private static boolean isFigure(int letter) {
            return letter >= '0' && letter <= '9';
        }

        private void takeClause(int word, Line draft) {
            switch (word) {
                case DRIVER:
                    draft.told = true;
                    draft.wire.driverOhms = numbers[0];
                    draft.wire.driverVolts = numbers[1];
                    break;
                case PIECE:
                    draft.wire.addPiece(numbers[0], numbers[1]);
                    break;
                case END:
                    endTold = true;
                    draft.wire.changeEnd(numbers[0], numbers[1]);
                    break;
                default:
                    draft.gates.add(numbers[0], numbers[1], numbers[2]);
                    break;
            }
        }

        private void skipBlanks() {
            while (at < count && letterHere() == ' ') {
                at++;
            }
        }

        /** NONE behind the last letter. */
        private int letterHere() {
            return at >= 0 && at < count && at < MAX_LETTERS ? letters[at] : NONE;
        }
    }

    /** The lines as they were ahead of the latest deeds; the oldest row is used again. */
    private static final class Past {
        final Line[] lines = new Line[MAX_DEEDS];
        int count;
        int next;

        Past() {
            for (int i = 0; i < MAX_DEEDS; i++) {
                lines[i] = new Line();
            }
        }

        void remember(Line line) {
            if (next < 0 || next >= MAX_DEEDS) {
                next = 0;
            }
            lines[next].copyFrom(line);
            next = (next + 1) % MAX_DEEDS;
            count = Math.min(MAX_DEEDS, count + 1);
        }

        void bringBack(Line line, int n) {
            if (n < 1 || n > count || n > MAX_DEEDS) {
                return;
            }
            next = Math.floorMod(next - n, MAX_DEEDS);
            line.copyFrom(lines[next]);
            count -= n;
        }
    }

    /** A line and a seed to go back to. */
    private static final class Image {
        final Line line = new Line();
        int seed;
        boolean kept;
    }

    /** What would be, on a line of its own, so that nothing changes by it. */
    private static final class Trial {
        final Line line = new Line();
        final int[] row = new int[MAX_TRIED + 1];

        void goOn(Line now, int n) {
            line.copyFrom(now);
            for (int k = 0; k < n; k++) {
                line.pass();
            }
        }

        void startQuiet(Line now) {
            line.copyFrom(now);
            line.calm();
            line.wire.high = true;
        }

        int voltsBehind(Line now, int i, int n) {
            line.copyFrom(now);
            for (int k = 0; k < n; k++) {
                line.wire.step();
            }
            return line.wire.voltsAt(i);
        }

        int peakUpTo(Line now, int i, int n) {
            line.copyFrom(now);
            int peak = line.wire.voltsAt(i);
            for (int k = 0; k < n; k++) {
                line.wire.step();
                peak = Math.max(peak, line.wire.voltsAt(i));
            }
            return peak;
        }

        int leastUpTo(Line now, int i, int n) {
            line.copyFrom(now);
            int least = line.wire.voltsAt(i);
            for (int k = 0; k < n; k++) {
                line.wire.step();
                least = Math.min(least, line.wire.voltsAt(i));
            }
            return least;
        }

        int restOf(Line now, int i) {
            line.copyFrom(now);
            row[0] = line.wire.voltsAt(i);
            for (int k = 1; k <= MAX_TRIED; k++) {
                line.wire.step();
                row[k] = line.wire.voltsAt(i);
            }
            int rest = MAX_TRIED;
            for (int k = MAX_TRIED; k >= 0; k--) {
                if (Math.abs(row[k] - row[MAX_TRIED]) > NEAR_REST) {
                    break;
                }
                rest = k;
            }
            return rest;
        }

        int firstOneOf(Line now, int g) {
            if (!now.gates.has(g)) {
                return NONE;
            }
            line.copyFrom(now);
            for (int k = 0; k <= MAX_TRIED; k++) {
                if (line.gates.sight[g] == 1) {
                    return k;
                }
                line.pass();
            }
            return NONE;
        }

        /** OVER, by a driver of r ohms; what is enough already is not looked at further. */
        int overOf(Line now, int r, int enough) {
            startQuiet(now);
            line.wire.driverOhms = r;
            int last = line.wire.cells - 1;
            int over = 0;
            if (last < 0) {
                return over;
            }
            for (int k = 0; k < MAX_TRIED && over < enough; k++) {
                line.wire.step();
                over = Math.max(over, line.wire.voltsAt(last) - line.wire.sourceVolts());
            }
            return over;
        }

        int bestDriverOf(Line now) {
            int best = 0;
            int least = NO_LIMIT;
            for (int r = 0; r <= MAX_OHMS && least > 0; r++) {
                int over = overOf(now, r, least);
                if (over < least) {
                    least = over;
                    best = r;
                }
            }
            return best;
        }

        int firstBackOf(Line now) {
            startQuiet(now);
            for (int k = 1; k <= MAX_TRIED; k++) {
                line.wire.step();
                if (line.wire.back[0] != 0) {
                    return k;
                }
            }
            return NONE;
        }
    }

    /** What was seen at the driver, and the faults by which all of it is so. */
    private static final class Suspects {
        final int[] seenTick = new int[MAX_SEEN];
        final int[] seenVolts = new int[MAX_SEEN];
        final boolean[] seenIs = new boolean[MAX_SEEN];
        // Made at the first look(): most objects never need so large a row.
        int[] traces = new int[0];
        int count;
        int fitting;
        int least;
        int greatest;

        boolean append(int t, int v, boolean is) {
            if (count < 0 || count >= MAX_SEEN) {
                return false;
            }
            seenTick[count] = t;
            seenVolts[count] = v;
            seenIs[count] = is;
            count++;
            return true;
        }

        /** Finds all that fits; with traces, its volts behind each tick of a look are kept too. */
        void gather(Line now, Trial trial, boolean traced) {
            if (traced && traces.length == 0) {
                traces = new int[MAX_SUSPECTS * MAX_LOOK];
            }
            fitting = 0;
            least = NONE;
            greatest = NONE;
            for (int i = 1; i < MAX_CELLS; i++) {
                if (now.wire.hasPlace(i) && now.wire.places[i] == WHOLE) {
                    trySuspect(now, trial, i, CUT, traced);
                    trySuspect(now, trial, i, SHORT, traced);
                }
            }
        }

        private void trySuspect(Line now, Trial trial, int i, int state, boolean traced) {
            trial.startQuiet(now);
            if (!trial.line.wire.hasPlace(i)) {
                return;
            }
            trial.line.wire.places[i] = state;
            int ticks = Math.max(traced ? MAX_LOOK : 0, lastSeenTick());
            for (int t = 1; t <= ticks; t++) {
                trial.line.wire.step();
                int v = trial.line.wire.voltsAt(0);
                if (isAgainst(t, v)) {
                    return;
                }
                if (traced) {
                    trace(t, v);
                }
            }
            int name = 2 * i + (state == SHORT ? 1 : 0);
            least = fitting == 0 ? name : least;
            greatest = name;
            fitting++;
        }

        private int lastSeenTick() {
            int last = 0;
            for (int k = 0; k < count && k < MAX_SEEN; k++) {
                last = Math.max(last, seenTick[k]);
            }
            return last;
        }

        private boolean isAgainst(int t, int v) {
            for (int k = 0; k < count && k < MAX_SEEN; k++) {
                if (seenTick[k] == t && (v >= seenVolts[k]) != seenIs[k]) {
                    return true;
                }
            }
            return false;
        }

        /** One that does not fit after all leaves its row to the next. */
        private void trace(int t, int v) {
            int row = (t - 1) * MAX_SUSPECTS + fitting;
            if (t >= 1 && t <= MAX_LOOK && row >= 0 && row < traces.length) {
                traces[row] = v;
            }
        }

        int bestLook() {
            int best = NONE;
            int fewest = fitting;
            for (int t = 1; t <= MAX_LOOK; t++) {
                int alike = mostAlike(t);
                if (alike < fewest) {
                    fewest = alike;
                    best = t;
                }
            }
            return best;
        }

        private int mostAlike(int t) {
            int first = (t - 1) * MAX_SUSPECTS;
            int behind = first + fitting;
            if (first < 0 || behind > traces.length) {
                return fitting;
            }
            int most = 0;
            for (int i = first; i < behind && behind - i > most; i++) {
                int alike = 0;
                for (int j = i; j < behind; j++) {
                    alike += traces[j] == traces[i] ? 1 : 0;
                }
                most = Math.max(most, alike);
            }
            return most;
        }
    }

    /** How many edges gates are said to have. */
    private static final class Book {
        final int[] gates = new int[MAX_ENTRIES];
        final int[] edges = new int[MAX_ENTRIES];
        int count;

        boolean append(int g, int e) {
            if (count < 0 || count >= MAX_ENTRIES) {
                return false;
            }
            gates[count] = g;
            edges[count] = e;
            count++;
            return true;
        }

        int firstWrong(Gates now) {
            for (int k = 0; k < count && k < MAX_ENTRIES; k++) {
                if (now.has(gates[k]) && now.edges[gates[k]] != edges[k]) {
                    return k;
                }
            }
            return NONE;
        }
    }
}
