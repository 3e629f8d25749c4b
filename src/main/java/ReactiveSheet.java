import java.util.Arrays;

/**
 * A sheet of 32 reactive cells. What is told goes through the sheet as one wave: a formula runs again only if one of
 * the cells that it read is changed, and nothing sees a value that is half new.
 */
public final class ReactiveSheet {
    public static final int NONE = -1, BAD = -2, STATE = -3, FULL = -4, RING = -7;
    public static final long NO = Long.MIN_VALUE;

    private static final int NOTHING = -11, BEYOND = -13, BELOW = -14;
    private static final int FAULT = -100;
    private static final int NOBODY = -5;

    private static final int CELLS = 32;
    private static final int ABSENT = 0, INPUT = 1, FORMULA = 2;
    private static final int OVER = 1, BY_NOUGHT = 2, MISSING = 3;
    private static final int MOST_TRIES = 12;

    private final Parser parser = new Parser();
    private final Speller speller = new Speller();
    private final Engine engine = new Engine();
    private final Telling telling = new Telling();
    private final Telling trial = new Telling();
    private final Watching watching = new Watching();
    private final History history = new History();
    private final Lists lists = new Lists();
    private final Trail trail = new Trail();
    private final Cells keptCells = new Cells();
    private final Watching keptWatching = new Watching();
    private boolean batch = false;
    private boolean kept = false;

    public ReactiveSheet() {
    }

    // ---- telling

    public int input(int cell, long value) {
        if (!isCell(cell)) {
            return NONE;
        }
        telling.put(cell, INPUT, value, null);
        return surge();
    }

    public int define(int cell) {
        if (!isCell(cell)) {
            return NONE;
        }
        Formula formula = parser.take();
        if (formula == null) {
            return FAULT - parser.fault();
        }
        telling.put(cell, FORMULA, 0, formula);
        return surge();
    }

    public int drop(int cell) {
        if (!isCell(cell)) {
            return NONE;
        }
        telling.put(cell, ABSENT, 0, null);
        return surge();
    }

    public int copy(int cell, int to) {
        if (!isCell(cell) || !isCell(to)) {
            return NONE;
        }
        Formula formula = engine.now().formulaOf(cell);
        if (formula == null) {
            return STATE;
        }
        Formula shifted = formula.shifted(to - cell);
        if (shifted == null) {
            return BAD;
        }
        telling.put(to, FORMULA, 0, shifted);
        return surge();
    }

    public int freeze(int cell) {
        if (!isCell(cell)) {
            return NONE;
        }
        Cells now = engine.now();
        if (now.kindOf(cell) != FORMULA || now.errorOf(cell) != 0) {
            return STATE;
        }
        telling.put(cell, INPUT, now.numberOf(cell), null);
        return surge();
    }

    public int begin() {
        if (batch) {
            return STATE;
        }
        batch = true;
        return 1;
    }

    public int end() {
        if (!batch) {
            return STATE;
        }
        batch = false;
        return surge();
    }

    public int cancel() {
        if (!batch) {
            return STATE;
        }
        batch = false;
        int count = telling.count();
        telling.forget();
        return count;
    }

    public int feed(int letter) {
        if (letter < 1 || letter > 127) {
            return BAD;
        }
        return parser.add(letter) ? parser.length() : FULL;
    }

    public int clear() {
        return parser.wipe();
    }

    // ---- asking

    public long value(int cell) {
        return engine.now().known(cell);
    }

    public int of(int cell, int what) {
        if (!isCell(cell)) {
            return NONE;
        }
        Cells now = engine.now();
        switch (what) {
            case 0: return now.kindOf(cell);
            case 1: return now.errorOf(cell);
            case 2: return now.heightOf(cell);
            case 3: return now.runsOf(cell);
            case 4: return now.readCount(cell);
            case 5: return Long.bitCount(now.readersOf(cell));
            case 6: return now.isChanged(cell) ? 1 : 0;
            case 7: return now.hasRun(cell) ? 1 : 0;
            case 8: return now.causeOf(cell);
            case 9: return Long.bitCount(now.below(cell));
            default: return NONE;
        }
    }

    public int reads(int cell, int i) {
        return engine.now().readOf(cell, i);
    }

    public long readers(int cell) {
        return isCell(cell) ? engine.now().readersOf(cell) : NO;
    }

    public int order(int i) {
        return engine.now().inOrder(i);
    }

    public int why(int cell, int i) {
        return isCell(cell) && i >= 0 ? engine.now().causeAbove(cell, i) : NONE;
    }

    public int way(int from, int to, int i) {
        if (!isCell(from) || !isCell(to) || i < -1) {
            return NONE;
        }
        int steps = trail.trace(engine.now(), from, to);
        if (steps < 0) {
            return NOBODY;
        }
        if (i < 0) {
            return steps;
        }
        return i > steps ? NONE : trail.cellAt(from, i);
    }

    public long whatIf(int cell, long v, int other) {
        if (!isCell(cell) || !isCell(other) || supposed(cell, v) == RING) {
            return NO;
        }
        long answer = engine.now().known(other);
        engine.back();
        return answer;
    }

    public int would(int cell, long v) {
        if (!isCell(cell)) {
            return NONE;
        }
        int count = supposed(cell, v);
        if (count != RING) {
            engine.back();
        }
        return count;
    }

    public long seek(int cell, long v, int n, int other, long goal) {
        if (!isCell(cell) || !isCell(other) || n < 0 || n > MOST_TRIES) {
            return NO;
        }
        for (int tried = 0; tried < n && v <= Long.MAX_VALUE - tried; tried++) {
            if (supposed(cell, v + tried) != RING) {
                boolean reached = engine.now().reaches(other, goal);
                engine.back();
                if (reached) {
                    return v + tried;
                }
            }
        }
        return NO;
    }

    public int spell(int cell) {
        if (!isCell(cell)) {
            return NONE;
        }
        Formula formula = engine.now().formulaOf(cell);
        if (formula == null) {
            return STATE;
        }
        speller.write(formula);
        return speller.length();
    }

    public int paper(int i) {
        return speller.letter(i);
    }

    // ---- watchers

    public int watch(int cell, int kind, long bound) {
        if (!isCell(cell) || kind < 0 || kind > 3) {
            return NONE;
        }
        return watching.join(cell, kind, bound);
    }

    public int quit(int watcher) {
        return watching.leave(watcher);
    }

    public int log(int i, int what) {
        return watching.entry(i, what);
    }

    public long logged(int i, int what) {
        return watching.number(i, what);
    }

    public int told(int what) {
        Cells now = engine.now();
        switch (what) {
            case 0: return now.countOf(INPUT);
            case 1: return now.countOf(FORMULA);
            case 2: return now.ranCount();
            case 3: return now.changedCount();
            case 4: return now.allRuns();
            case 5: return history.waves();
            case 6: return watching.joined();
            case 7: return watching.entries();
            case 8: return batch ? 1 : 0;
            case 9: return telling.count();
            case 10: return parser.length();
            case 11: return speller.length();
            case 12: return now.greatestHeight();
            default: return NONE;
        }
    }

    public int past(int i, int what) {
        return history.entry(i, what);
    }

    // ---- lists, the image

    public int list(int list, int n) {
        if (!lists.isList(list)) {
            return NONE;
        }
        if (n > Lists.PLACES) {
            return BAD;
        }
        if (n < 0) {
            return BELOW;
        }
        lists.make(list, n);
        return 1;
    }

    public int set(int list, int i, long v) {
        if (!lists.isList(list)) {
            return NONE;
        }
        if (!lists.isMade(list)) {
            return NOTHING;
        }
        if (!lists.hasPlace(list, i)) {
            return BEYOND;
        }
        lists.put(list, i, v);
        return 1;
    }

    public long get(int list, int i) {
        return lists.at(list, i);
    }

    public int move(int list, int i, int other, int j, int n) {
        if (!lists.isList(list) || !lists.isList(other)) {
            return NONE;
        }
        if (!lists.isMade(list) || !lists.isMade(other)) {
            return NOTHING;
        }
        if (!lists.hasRow(list, i, n) || !lists.hasRow(other, j, n)) {
            return BEYOND;
        }
        lists.carry(list, i, other, j, n);
        return n;
    }

    public int fill(int list, int i, int cell, int n) {
        if (!lists.isList(list) || !isCell(cell)) {
            return NONE;
        }
        if (n < 0 || n > CELLS - cell) {
            return BAD;
        }
        if (!lists.isMade(list)) {
            return NOTHING;
        }
        for (int k = 0; k < n; k++) {
            if (!lists.hasPlace(list, (long) i + k)) {
                return BEYOND;
            }
            lists.put(list, i + k, engine.now().listed(cell + k));
        }
        return n;
    }

    public int pour(int list, int i, int cell, int n) {
        if (!lists.isList(list) || !isCell(cell)) {
            return NONE;
        }
        if (n < 0 || n > CELLS - cell) {
            return BAD;
        }
        if (!lists.isMade(list)) {
            return NOTHING;
        }
        if (n > 0 && !lists.hasRow(list, i, n)) {
            return BEYOND;
        }
        if (batch) {
            return STATE;
        }
        for (int k = 0; k < n; k++) {
            telling.put(cell + k, INPUT, lists.at(list, i + k), null);
        }
        return surge();
    }

    public int image() {
        if (batch) {
            return STATE;
        }
        keptCells.takeFrom(engine.now());
        keptWatching.takeFrom(watching);
        kept = true;
        return keptCells.present();
    }

    public int undo() {
        if (!kept || batch) {
            return STATE;
        }
        engine.now().takeFrom(keptCells);
        watching.takeFrom(keptWatching);
        return keptCells.present();
    }

    // ---- within

    private static boolean isCell(long cell) {
        return cell >= 0 && cell < CELLS;
    }

    private static long bit(int cell) {
        return 1L << cell;
    }

    private static boolean has(long bits, int cell) {
        return (bits >> cell & 1) != 0;
    }

    /** What is told goes off as a wave, but within a batch, which keeps it. */
    private int surge() {
        if (batch) {
            return 0;
        }
        int ran = engine.go(telling);
        if (ran != RING) {
            int tells = watching.ask(engine.before(), engine.now());
            history.add(telling.count(), ran, engine.now().changedCount(), tells);
        }
        telling.forget();
        return ran;
    }

    /** Does the wave of a what if; unless it is refused, the engine is to go back behind it. */
    private int supposed(int cell, long v) {
        trial.forget();
        trial.put(cell, INPUT, v, null);
        return engine.go(trial);
    }

    /**
     * A formula as it was read. Its nodes stand in the order in which they are worked out: what a node is made of
     * stands ahead of it. It never changes, so that cells, an image and copies may share it.
     */
    private static final class Formula {
        static final int NUMBER = 0, CELL = 1, SUM = 2, NEGATE = 3, AT = 4, NOT = 5, LESSER = 6, GREATER = 7;
        static final int TIMES = 8, DIVIDE = 9, PLUS = 10, MINUS = 11, LESS = 12, SAME = 13, MORE = 14, CHOICE = 15;
        /** Two that only lead on: past a choice's second part, if its first is 0; from there past its third. */
        static final int UNLESS = 16, SKIP = 17;

        /** A text of 120 bytes has fewer: what makes the most of them is "1?1:", five nodes of four bytes. */
        static final int NODES = 160;

        private final int root;
        private final int[] kinds;
        private final int[] firsts;
        private final int[] seconds;
        private final int[] thirds;
        private final int[] rescues;

        Formula(int root, int[] kinds, int[] firsts, int[] seconds, int[] thirds, int[] rescues) {
            this.root = root;
            this.kinds = kinds;
            this.firsts = firsts;
            this.seconds = seconds;
            this.thirds = thirds;
            this.rescues = rescues;
        }

        private static int at(int[] row, int node) {
            return node >= 0 && node < row.length ? row[node] : 0;
        }

        int size() {
            return kinds.length;
        }

        int root() {
            return root;
        }

        int kind(int node) {
            return at(kinds, node);
        }

        int first(int node) {
            return at(firsts, node);
        }

        int second(int node) {
            return at(seconds, node);
        }

        int third(int node) {
            return at(thirds, node);
        }

        /** The "!" that answers an error of a node, or -1. */
        int rescue(int node) {
            return node >= 0 && node < rescues.length ? rescues[node] : -1;
        }

        /** The same with all its cells so much further on, or null, if one of them would be none. */
        Formula shifted(int by) {
            int[] newFirsts = firsts.clone();
            int[] newSeconds = seconds.clone();
            for (int node = 0; node < newFirsts.length && node < newSeconds.length; node++) {
                int kind = kind(node);
                if (kind == CELL || kind == SUM) {
                    newFirsts[node] += by;
                    if (!isCell(newFirsts[node])) {
                        return null;
                    }
                }
                if (kind == SUM) {
                    newSeconds[node] += by;
                    if (!isCell(newSeconds[node])) {
                        return null;
                    }
                }
            }
            return new Formula(root, kinds, newFirsts, newSeconds, thirds, rescues);
        }
    }

    /** The tape, and the reading of it from the left. */
    private static final class Parser {
        private static final int TAPE = 120;
        private static final int DEEPEST = 3;

        private final int[] tape = new int[TAPE];
        private final int[] kinds = new int[Formula.NODES];
        private final int[] firsts = new int[Formula.NODES];
        private final int[] seconds = new int[Formula.NODES];
        private final int[] thirds = new int[Formula.NODES];
        private final int[] rescues = new int[Formula.NODES];
        private int length = 0;
        private int place = 0;
        private int fault = -1;
        private int nodes = 0;

        boolean add(int letter) {
            if (length >= TAPE) {
                return false;
            }
            tape[length] = letter;
            length++;
            return true;
        }

        int wipe() {
            int had = length;
            length = 0;
            return had;
        }

        int length() {
            return length;
        }

        /** Where the text that was read last has its fault. */
        int fault() {
            return fault;
        }

        /** Reads the tape, which is empty then: its formula, or null, if it has a fault. */
        Formula take() {
            place = 0;
            fault = -1;
            nodes = 0;
            int root = choice(0, 0);
            if (place < length) {
                fail(place);
            }
            length = 0;
            if (fault >= 0 || nodes < 1) {
                return null;
            }
            return new Formula(root, Arrays.copyOf(kinds, nodes), Arrays.copyOf(firsts, nodes),
                    Arrays.copyOf(seconds, nodes), Arrays.copyOf(thirds, nodes), Arrays.copyOf(rescues, nodes));
        }

        /** The byte that is next; 0, where there is none, or a fault was met, so that nothing more is read. */
        private int here() {
            return fault < 0 && place < length && place < TAPE ? tape[place] : 0;
        }

        private int fail(int at) {
            if (fault < 0) {
                fault = at;
            }
            return 0;
        }

        private boolean skip(int letter) {
            if (here() != letter) {
                return false;
            }
            place++;
            return true;
        }

        private void expect(int letter) {
            if (!skip(letter)) {
                fail(place);
            }
        }

        private int node(int kind, int first, int second, int third) {
            if (nodes >= Formula.NODES) {
                return fail(place);
            }
            kinds[nodes] = kind;
            firsts[nodes] = first;
            seconds[nodes] = second;
            thirds[nodes] = third;
            rescues[nodes] = -1;
            nodes++;
            return nodes - 1;
        }

        /** E. The choices within one another at their ends are counted, so that an end of them can be seen. */
        private int choice(int deep, int tails) {
            int first = comparison(deep);
            if (tails >= TAPE || !skip('?')) {
                return first;
            }
            int unless = node(Formula.UNLESS, first, 0, 0);
            int second = comparison(deep);
            expect(':');
            int over = node(Formula.SKIP, 0, 0, 0);
            int third = choice(deep, tails + 1);
            int choice = node(Formula.CHOICE, first, second, third);
            lead(seconds, unless, over + 1);
            lead(firsts, over, choice);
            return choice;
        }

        private static void lead(int[] row, int node, int to) {
            if (node >= 0 && node < row.length) {
                row[node] = to;
            }
        }

        /** C. */
        private int comparison(int deep) {
            int first = sum(deep);
            int kind = comparing(here());
            if (kind < 0) {
                return first;
            }
            place++;
            return node(kind, first, sum(deep), 0);
        }

        private int comparing(int letter) {
            switch (letter) {
                case '<': return Formula.LESS;
                case '=': return Formula.SAME;
                case '>': return Formula.MORE;
                default: return -1;
            }
        }

        /** S. */
        private int sum(int deep) {
            int whole = product(deep);
            for (int signs = 0; signs < TAPE && (here() == '+' || here() == '-'); signs++) {
                int kind = here() == '+' ? Formula.PLUS : Formula.MINUS;
                place++;
                whole = node(kind, whole, product(deep), 0);
            }
            return whole;
        }

        /** T. */
        private int product(int deep) {
            int whole = factor(deep);
            for (int signs = 0; signs < TAPE && (here() == '*' || here() == '/'); signs++) {
                int kind = here() == '*' ? Formula.TIMES : Formula.DIVIDE;
                place++;
                whole = node(kind, whole, factor(deep), 0);
            }
            return whole;
        }

        /** F, within so many others as deep is. */
        private int factor(int deep) {
            int letter = here();
            if (isFigure(letter)) {
                return node(Formula.NUMBER, number(9), 0, 0);
            }
            if (skip('#')) {
                return node(Formula.CELL, cellNumber(0), 0, 0);
            }
            if (skip('s')) {
                int from = cellNumber(0);
                expect('-');
                return node(Formula.SUM, from, cellNumber(from), 0);
            }
            if (deep >= DEEPEST) {
                return fail(place);
            }
            return nested(letter, deep + 1);
        }

        private int nested(int letter, int deep) {
            if (skip('(')) {
                int whole = choice(deep, 0);
                expect(')');
                return whole;
            }
            if (skip('-')) {
                return node(Formula.NEGATE, factor(deep), 0, 0);
            }
            if (skip('@')) {
                return node(Formula.AT, factor(deep), 0, 0);
            }
            if (skip('!')) {
                return not(deep);
            }
            if (skip('l') || skip('g')) {
                expect('(');
                int first = choice(deep, 0);
                expect(',');
                int second = choice(deep, 0);
                expect(')');
                return node(letter == 'l' ? Formula.LESSER : Formula.GREATER, first, second, 0);
            }
            return fail(place);
        }

        private int not(int deep) {
            int from = nodes;
            int inner = factor(deep);
            int not = node(Formula.NOT, inner, 0, 0);
            for (int node = from; node < not && node < Formula.NODES; node++) {
                if (rescues[node] < 0) {
                    rescues[node] = not;
                }
            }
            return not;
        }

        private static boolean isFigure(int letter) {
            return letter >= '0' && letter <= '9';
        }

        private int cellNumber(int least) {
            int from = place;
            int cell = number(2);
            return isCell(cell) && cell >= least ? cell : fail(from);
        }

        private int number(int most) {
            if (!isFigure(here())) {
                return fail(place);
            }
            int whole = 0;
            for (int figures = 0; figures < most && isFigure(here()); figures++) {
                whole = whole * 10 + here() - '0';
                place++;
            }
            return whole;
        }
    }

    /** The paper, and the spelling of formulas on it. */
    private static final class Speller {
        /** A copy may be longer than a tape, as its cells may have two figures each where there was one. */
        private static final int PAPER = 256;
        private static final int WORK = 512;
        private static final int LEVELS = 8;

        /** How tightly each kind of node holds together: 4 as F, 3 as T, 2 as S, 1 as C, 0 as E. */
        private static final int[] LEVEL = {4, 4, 4, 4, 4, 4, 4, 4, 3, 3, 2, 2, 1, 1, 1, 0, 0, 0};
        private static final int[] SIGN = {0, '#', 's', '-', '@', '!', 'l', 'g', '*', '/', '+', '-', '<', '=', '>', '?', 0, 0};

        private final int[] paper = new int[PAPER];
        /** What is still to be written, the latest first: a byte as its negative, or a node with the level it needs. */
        private final int[] work = new int[WORK];
        private int length = 0;
        private int waiting = 0;

        int length() {
            return length;
        }

        int letter(int i) {
            return i >= 0 && i < length && i < PAPER ? paper[i] : NONE;
        }

        void write(Formula formula) {
            length = 0;
            waiting = 0;
            later(formula.root(), 0);
            for (int steps = 0; steps < 4 * WORK && waiting > 0 && waiting <= WORK; steps++) {
                waiting--;
                int item = work[waiting];
                if (item < 0) {
                    letterNow(-item);
                } else {
                    unfold(formula, item / LEVELS, item % LEVELS);
                }
            }
        }

        private void letterNow(int letter) {
            if (length < PAPER) {
                paper[length] = letter;
                length++;
            }
        }

        private void later(int node, int level) {
            if (waiting < WORK) {
                work[waiting] = node * LEVELS + level;
                waiting++;
            }
        }

        private void letterLater(int letter) {
            if (waiting < WORK) {
                work[waiting] = -letter;
                waiting++;
            }
        }

        private void unfold(Formula formula, int node, int level) {
            int kind = formula.kind(node);
            if (kind < 0 || kind >= LEVEL.length || kind >= SIGN.length) {
                return;
            }
            if (LEVEL[kind] < level) {
                letterNow('(');
                letterLater(')');
            }
            if (kind <= Formula.SUM) {
                writeLeaf(formula, node, SIGN[kind]);
            } else if (kind <= Formula.NOT) {
                letterNow(SIGN[kind]);
                later(formula.first(node), 4);
            } else if (kind <= Formula.GREATER) {
                letterNow(SIGN[kind]);
                letterNow('(');
                letterLater(')');
                writePair(formula, node, 0, 0, ',');
            } else if (kind < Formula.CHOICE) {
                boolean chain = LEVEL[kind] > 1;
                writePair(formula, node, chain ? LEVEL[kind] : 2, chain ? LEVEL[kind] + 1 : 2, SIGN[kind]);
            } else {
                later(formula.third(node), 0);
                letterLater(':');
                later(formula.second(node), 1);
                letterLater('?');
                later(formula.first(node), 1);
            }
        }

        private void writePair(Formula formula, int node, int level, int secondLevel, int between) {
            later(formula.second(node), secondLevel);
            letterLater(between);
            later(formula.first(node), level);
        }

        private void writeLeaf(Formula formula, int node, int sign) {
            if (sign != 0) {
                letterNow(sign);
            }
            writeNumber(formula.first(node));
            if (formula.kind(node) == Formula.SUM) {
                letterNow('-');
                writeNumber(formula.second(node));
            }
        }

        private void writeNumber(int whole) {
            int unit = 1;
            for (int figures = 1; figures < 9 && whole / unit >= 10; figures++) {
                unit *= 10;
            }
            for (; unit > 0; unit /= 10) {
                letterNow('0' + whole / unit % 10);
            }
        }
    }

    /** All cells with all that is theirs: as they are, as they were ahead of a wave, or as an image keeps them. */
    private static final class Cells {
        private final int[] kinds = new int[CELLS];
        private final long[] numbers = new long[CELLS];
        private final int[] errors = new int[CELLS];
        private final Formula[] formulas = new Formula[CELLS];
        private final int[] runs = new int[CELLS];
        private final int[] heights = new int[CELLS];
        private final int[] causes = new int[CELLS];
        private final int[] reads = new int[CELLS * CELLS];
        private final int[] readCounts = new int[CELLS];
        private final long[] readBits = new long[CELLS];
        private long changed = 0;
        private long ran = 0;

        Cells() {
            for (int cell = 0; cell < CELLS; cell++) {
                errors[cell] = MISSING;
                causes[cell] = NOBODY;
            }
        }

        void takeFrom(Cells other) {
            System.arraycopy(other.kinds, 0, kinds, 0, CELLS);
            System.arraycopy(other.numbers, 0, numbers, 0, CELLS);
            System.arraycopy(other.errors, 0, errors, 0, CELLS);
            System.arraycopy(other.runs, 0, runs, 0, CELLS);
            System.arraycopy(other.heights, 0, heights, 0, CELLS);
            System.arraycopy(other.causes, 0, causes, 0, CELLS);
            System.arraycopy(other.readCounts, 0, readCounts, 0, CELLS);
            System.arraycopy(other.readBits, 0, readBits, 0, CELLS);
            for (int cell = 0; cell < CELLS; cell++) {
                formulas[cell] = other.formulas[cell];
                int count = other.readCount(cell);
                if (count > 0 && count <= CELLS) {
                    System.arraycopy(other.reads, cell * CELLS, reads, cell * CELLS, count);
                }
            }
            changed = other.changed;
            ran = other.ran;
        }

        // what a wave does

        void startWave() {
            changed = 0;
            ran = 0;
            Arrays.fill(causes, NOBODY);
        }

        /** A formula keeps the value that the cell had till it runs. */
        void become(int cell, int kind, long number, Formula formula) {
            if (!isCell(cell)) {
                return;
            }
            kinds[cell] = kind;
            formulas[cell] = formula;
            runs[cell] = 0;
            heights[cell] = 0;
            readCounts[cell] = 0;
            readBits[cell] = 0;
            if (kind == INPUT) {
                numbers[cell] = number;
                errors[cell] = 0;
            } else if (kind == ABSENT) {
                numbers[cell] = 0;
                errors[cell] = MISSING;
            }
        }

        void startRun(int cell, int cause) {
            if (isCell(cell)) {
                ran |= bit(cell);
                causes[cell] = cause;
                runs[cell]++;
                readCounts[cell] = 0;
                readBits[cell] = 0;
            }
        }

        void addRead(int cell, int read) {
            if (isCell(cell) && isCell(read) && !has(readBits[cell], read) && readCounts[cell] < CELLS) {
                reads[cell * CELLS + readCounts[cell]] = read;
                readCounts[cell]++;
                readBits[cell] |= bit(read);
            }
        }

        /** Two errors that are the same are the same value, whatever number was worked out last. */
        void endRun(int cell, int error, long number) {
            if (isCell(cell)) {
                errors[cell] = error;
                numbers[cell] = error == 0 ? number : 0;
            }
        }

        void compare(int cell, Cells earlier) {
            if (isCell(cell) && (errors[cell] != earlier.errors[cell] || numbers[cell] != earlier.numbers[cell])) {
                changed |= bit(cell);
            }
        }

        void measure(int cell) {
            if (!isCell(cell)) {
                return;
            }
            int greatest = 0;
            for (int i = 0; i < readCounts[cell] && i < CELLS; i++) {
                greatest = Math.max(greatest, heightOf(reads[cell * CELLS + i]));
            }
            heights[cell] = greatest + 1;
        }

        // what one cell is

        int kindOf(int cell) {
            return isCell(cell) ? kinds[cell] : ABSENT;
        }

        int errorOf(int cell) {
            return isCell(cell) ? errors[cell] : MISSING;
        }

        long numberOf(int cell) {
            return isCell(cell) ? numbers[cell] : 0;
        }

        Formula formulaOf(int cell) {
            return isCell(cell) ? formulas[cell] : null;
        }

        int heightOf(int cell) {
            return isCell(cell) ? heights[cell] : 0;
        }

        int runsOf(int cell) {
            return isCell(cell) ? runs[cell] : 0;
        }

        int causeOf(int cell) {
            return isCell(cell) ? causes[cell] : NOBODY;
        }

        boolean isChanged(int cell) {
            return isCell(cell) && has(changed, cell);
        }

        boolean hasRun(int cell) {
            return isCell(cell) && has(ran, cell);
        }

        int readCount(int cell) {
            return isCell(cell) ? readCounts[cell] : 0;
        }

        int readOf(int cell, int i) {
            return isCell(cell) && i >= 0 && i < CELLS && i < readCounts[cell] ? reads[cell * CELLS + i] : NONE;
        }

        boolean reaches(int cell, long goal) {
            return errorOf(cell) == 0 && numberOf(cell) >= goal;
        }

        /** The number that the value is, or NO. */
        long known(int cell) {
            return errorOf(cell) == 0 ? numberOf(cell) : NO;
        }

        /** The value as a list has it. */
        long listed(int cell) {
            return errorOf(cell) == 0 ? numberOf(cell) : NO + errorOf(cell);
        }

        // what cells are together

        long readersOf(int cell) {
            long bits = 0;
            for (int other = 0; isCell(cell) && other < CELLS; other++) {
                if (has(readBits[other], cell)) {
                    bits |= bit(other);
                }
            }
            return bits;
        }

        long below(int cell) {
            long bits = readersOf(cell);
            long earlier = 0;
            for (int round = 0; round < CELLS && bits != earlier; round++) {
                earlier = bits;
                for (int other = 0; other < CELLS; other++) {
                    if ((readBits[other] & bits) != 0) {
                        bits |= bit(other);
                    }
                }
            }
            return bits;
        }

        int inOrder(int i) {
            if (i < 0 || i >= present()) {
                return NONE;
            }
            int ahead = 0;
            for (int height = 0; height <= CELLS; height++) {
                for (int cell = 0; cell < CELLS; cell++) {
                    if (kinds[cell] != ABSENT && heights[cell] == height) {
                        if (ahead == i) {
                            return cell;
                        }
                        ahead++;
                    }
                }
            }
            return NONE;
        }

        int causeAbove(int cell, int i) {
            int cause = causeOf(cell);
            for (int steps = 0; steps < i && steps < CELLS && isCell(cause); steps++) {
                cause = causeOf(cause);
            }
            return isCell(cause) && i < CELLS ? cause : NONE;
        }

        int countOf(int kind) {
            int count = 0;
            for (int cell = 0; cell < CELLS; cell++) {
                if (kinds[cell] == kind) {
                    count++;
                }
            }
            return count;
        }

        int present() {
            return CELLS - countOf(ABSENT);
        }

        /** Bits of those that are no formulas. */
        long plain() {
            long bits = 0;
            for (int cell = 0; cell < CELLS; cell++) {
                if (kinds[cell] != FORMULA) {
                    bits |= bit(cell);
                }
            }
            return bits;
        }

        int ranCount() {
            return Long.bitCount(ran);
        }

        int changedCount() {
            return Long.bitCount(changed);
        }

        int allRuns() {
            int sum = 0;
            for (int cell = 0; cell < CELLS; cell++) {
                sum += runs[cell];
            }
            return sum;
        }

        int greatestHeight() {
            int greatest = 0;
            for (int cell = 0; cell < CELLS; cell++) {
                greatest = Math.max(greatest, heights[cell]);
            }
            return greatest;
        }
    }

    /** What cells are told to become in one wave: of each the latest. */
    private static final class Telling {
        private final int[] kinds = new int[CELLS];
        private final long[] numbers = new long[CELLS];
        private final Formula[] formulas = new Formula[CELLS];
        private long cells = 0;

        void put(int cell, int kind, long number, Formula formula) {
            if (isCell(cell)) {
                kinds[cell] = kind;
                numbers[cell] = number;
                formulas[cell] = formula;
                cells |= bit(cell);
            }
        }

        void forget() {
            cells = 0;
        }

        long cells() {
            return cells;
        }

        int count() {
            return Long.bitCount(cells);
        }

        void tell(Cells now) {
            for (int cell = 0; cell < CELLS; cell++) {
                if (has(cells, cell)) {
                    now.become(cell, kinds[cell], numbers[cell], formulas[cell]);
                }
            }
        }
    }

    /** Does waves: the cells as they are, and as they were ahead of the latest one. */
    private static final class Engine {
        private static final int STILL = -1;

        private final Cells now = new Cells();
        private final Cells before = new Cells();
        /** What each node of each cell's formula came to, a row of nodes for each cell. */
        private final long[] results = new long[CELLS * Formula.NODES];
        private long fresh = 0;
        private long settled = 0;
        private long open = 0;
        private boolean ring = false;
        /** What the step that was done last came to, if that is no error. */
        private long number = 0;

        Cells now() {
            return now;
        }

        Cells before() {
            return before;
        }

        /** All is as ahead of the latest wave. */
        void back() {
            now.takeFrom(before);
        }

        /** Does a wave: how many formulas ran; or RING, and all is as ahead of it. */
        int go(Telling telling) {
            before.takeFrom(now);
            now.startWave();
            telling.tell(now);
            fresh = telling.cells();
            settled = now.plain();
            open = 0;
            ring = false;
            for (int cell = 0; cell < CELLS; cell++) {
                if (has(settled, cell)) {
                    now.compare(cell, before);
                }
            }
            for (int cell = 0; cell < CELLS && !ring; cell++) {
                settle(cell, 0);
            }
            if (ring) {
                back();
                return RING;
            }
            return now.ranCount();
        }

        private void settle(int cell, int deep) {
            if (ring || has(settled, cell)) {
                return;
            }
            if (has(open, cell) || deep > CELLS) {
                ring = true;
                return;
            }
            open |= bit(cell);
            int cause = has(fresh, cell) ? NOBODY : firstChanged(cell, deep);
            if (cause != STILL && !ring) {
                run(cell, cause, deep);
            }
            now.measure(cell);
            open &= ~bit(cell);
            settled |= bit(cell);
        }

        private int firstChanged(int cell, int deep) {
            int count = now.readCount(cell);
            for (int i = 0; i < count && !ring; i++) {
                int read = now.readOf(cell, i);
                settle(read, deep + 1);
                if (now.isChanged(read)) {
                    return read;
                }
            }
            return STILL;
        }

        private void run(int cell, int cause, int deep) {
            now.startRun(cell, cause);
            Formula formula = now.formulaOf(cell);
            if (formula == null) {
                return;
            }
            int error = 0;
            int node = 0;
            int size = formula.size();
            for (int steps = 0; steps < size && node < size && error == 0 && !ring; steps++) {
                error = step(formula, cell, node, deep);
                int rescue = formula.rescue(node);
                if (error == 0) {
                    keep(cell, node, number);
                    node = following(formula, cell, node);
                } else if (rescue >= 0) {
                    error = 0;
                    keep(cell, rescue, 1);
                    node = rescue + 1;
                }
            }
            now.endRun(cell, error, result(cell, formula.root()));
            now.compare(cell, before);
        }

        private int following(Formula formula, int cell, int node) {
            switch (formula.kind(node)) {
                case Formula.UNLESS: return result(cell, formula.first(node)) == 0 ? formula.second(node) : node + 1;
                case Formula.SKIP: return formula.first(node);
                default: return node + 1;
            }
        }

        private void keep(int cell, int node, long whole) {
            if (isCell(cell) && node >= 0 && node < Formula.NODES) {
                results[cell * Formula.NODES + node] = whole;
            }
        }

        private long result(int cell, int node) {
            return isCell(cell) && node >= 0 && node < Formula.NODES ? results[cell * Formula.NODES + node] : 0;
        }

        /** Works out one node: its error, or 0, and then the number stands in its field. */
        private int step(Formula formula, int cell, int node, int deep) {
            int kind = formula.kind(node);
            int first = formula.first(node);
            int second = formula.second(node);
            switch (kind) {
                case Formula.NUMBER: return done(first);
                case Formula.CELL: return come(cell, first, deep);
                case Formula.SUM: return addUp(cell, first, second, deep);
                case Formula.AT: return come(cell, result(cell, first), deep);
                case Formula.NEGATE: return minus(0, result(cell, first));
                case Formula.CHOICE: return done(result(cell, result(cell, first) != 0 ? second : formula.third(node)));
                case Formula.NOT:
                case Formula.UNLESS:
                case Formula.SKIP: return done(0);
                default: return combine(kind, result(cell, first), result(cell, second));
            }
        }

        private int done(long whole) {
            number = whole;
            return 0;
        }

        /** A formula comes to a cell, which is settled first. */
        private int come(int cell, long other, int deep) {
            if (!isCell(other)) {
                return MISSING;
            }
            int read = (int) other;
            settle(read, deep + 1);
            now.addRead(cell, read);
            number = now.numberOf(read);
            return now.errorOf(read);
        }

        private int addUp(int cell, int from, int to, int deep) {
            long sum = 0;
            for (int other = from; other <= to && other < CELLS && !ring; other++) {
                int error = come(cell, other, deep);
                if (error == 0) {
                    error = plus(sum, number);
                }
                if (error != 0) {
                    return error;
                }
                sum = number;
            }
            return done(sum);
        }

        private int combine(int kind, long a, long b) {
            switch (kind) {
                case Formula.LESSER: return done(Math.min(a, b));
                case Formula.GREATER: return done(Math.max(a, b));
                case Formula.TIMES: return times(a, b);
                case Formula.DIVIDE: return divide(a, b);
                case Formula.PLUS: return plus(a, b);
                case Formula.MINUS: return minus(a, b);
                case Formula.LESS: return done(a < b ? 1 : 0);
                case Formula.SAME: return done(a == b ? 1 : 0);
                default: return done(a > b ? 1 : 0);
            }
        }

        private int plus(long a, long b) {
            number = a + b;
            return ((a ^ number) & (b ^ number)) < 0 ? OVER : 0;
        }

        private int minus(long a, long b) {
            number = a - b;
            return ((a ^ b) & (a ^ number)) < 0 ? OVER : 0;
        }

        /** Dividing back tells whether a product went over, but for -1, by which that goes over as well. */
        private int times(long a, long b) {
            number = a * b;
            if (a == -1) {
                return b == Long.MIN_VALUE ? OVER : 0;
            }
            return a != 0 && number / a != b ? OVER : 0;
        }

        private int divide(long a, long b) {
            if (b == 0) {
                return BY_NOUGHT;
            }
            number = a / b;
            return b == -1 && a == Long.MIN_VALUE ? OVER : 0;
        }
    }

    /** The watchers as they joined, and the log of what they told. */
    private static final class Watching {
        private static final int MOST = 8;
        private static final int LOG = 60;
        private static final int ANY = 0, RISE = 1, CROSSES = 2;

        private final int[] cells = new int[MOST];
        private final int[] kinds = new int[MOST];
        private final long[] bounds = new long[MOST];
        private int joined = 0;
        private long telling = 0;

        private final int[] who = new int[LOG];
        private final int[] oldErrors = new int[LOG];
        private final int[] newErrors = new int[LOG];
        private final long[] oldNumbers = new long[LOG];
        private final long[] newNumbers = new long[LOG];
        private int oldest = 0;
        private int entries = 0;

        void takeFrom(Watching other) {
            System.arraycopy(other.cells, 0, cells, 0, MOST);
            System.arraycopy(other.kinds, 0, kinds, 0, MOST);
            System.arraycopy(other.bounds, 0, bounds, 0, MOST);
            joined = other.joined;
            telling = other.telling;
            System.arraycopy(other.who, 0, who, 0, LOG);
            System.arraycopy(other.oldErrors, 0, oldErrors, 0, LOG);
            System.arraycopy(other.newErrors, 0, newErrors, 0, LOG);
            System.arraycopy(other.oldNumbers, 0, oldNumbers, 0, LOG);
            System.arraycopy(other.newNumbers, 0, newNumbers, 0, LOG);
            oldest = other.oldest;
            entries = other.entries;
        }

        int join(int cell, int kind, long bound) {
            if (joined >= MOST) {
                return FULL;
            }
            cells[joined] = cell;
            kinds[joined] = kind;
            bounds[joined] = bound;
            telling |= bit(joined);
            joined++;
            return joined - 1;
        }

        int leave(int watcher) {
            if (watcher < 0 || watcher >= joined) {
                return NONE;
            }
            int answer = has(telling, watcher) ? 1 : 0;
            telling &= ~bit(watcher);
            return answer;
        }

        int joined() {
            return joined;
        }

        int entries() {
            return entries;
        }

        /** Asks the watchers behind a wave: how many of them told of something. */
        int ask(Cells before, Cells now) {
            int tells = 0;
            for (int watcher = 0; watcher < joined && watcher < MOST; watcher++) {
                if (has(telling, watcher) && now.isChanged(cells[watcher]) && stirs(watcher, before, now)) {
                    note(watcher, before, now);
                    tells++;
                }
            }
            return tells;
        }

        private boolean stirs(int watcher, Cells before, Cells now) {
            int cell = cells[watcher];
            boolean wasNumber = before.errorOf(cell) == 0;
            boolean isNumber = now.errorOf(cell) == 0;
            long was = before.numberOf(cell);
            long is = now.numberOf(cell);
            switch (kinds[watcher]) {
                case ANY: return true;
                case RISE: return wasNumber && isNumber && is > was;
                case CROSSES: return wasNumber && isNumber && was < bounds[watcher] != is < bounds[watcher];
                default: return wasNumber != isNumber;
            }
        }

        private void note(int watcher, Cells before, Cells now) {
            if (entries >= LOG) {
                oldest = (oldest + 1) % LOG;
                entries = LOG - 1;
            }
            int at = (oldest + entries) % LOG;
            entries++;
            if (at < 0 || watcher < 0 || watcher >= MOST) {
                return;
            }
            int cell = cells[watcher];
            who[at] = watcher;
            oldErrors[at] = before.errorOf(cell);
            newErrors[at] = now.errorOf(cell);
            oldNumbers[at] = before.known(cell);
            newNumbers[at] = now.known(cell);
        }

        private int placeOf(int i) {
            return i >= 0 && i < entries ? Math.floorMod(oldest + i, LOG) : NONE;
        }

        int entry(int i, int what) {
            int at = placeOf(i);
            if (at < 0) {
                return NONE;
            }
            switch (what) {
                case 0: return who[at];
                case 1: return oldErrors[at];
                case 2: return newErrors[at];
                default: return NONE;
            }
        }

        long number(int i, int what) {
            int at = placeOf(i);
            if (at < 0 || what < 0 || what > 1) {
                return NO;
            }
            return what == 0 ? oldNumbers[at] : newNumbers[at];
        }
    }

    /** The latest waves, and how many there were. */
    private static final class History {
        private static final int MOST = 20;
        private static final int FACTS = 4;

        private final int[] facts = new int[MOST * FACTS];
        private int waves = 0;

        int waves() {
            return waves;
        }

        void add(int told, int ran, int changed, int tells) {
            int at = Math.floorMod(waves, MOST) * FACTS;
            facts[at] = told;
            facts[at + 1] = ran;
            facts[at + 2] = changed;
            facts[at + 3] = tells;
            waves++;
        }

        int entry(int i, int what) {
            if (i < 0 || i >= MOST || i >= waves || what < 0 || what >= FACTS) {
                return NONE;
            }
            return facts[Math.floorMod(waves - 1 - i, MOST) * FACTS + what];
        }
    }

    /** The four lists. */
    private static final class Lists {
        static final int PLACES = 40;
        private static final int LISTS = 4;
        private static final int UNMADE = -1;

        private final long[] places = new long[LISTS * PLACES];
        private final int[] sizes = new int[LISTS];

        Lists() {
            for (int list = 0; list < LISTS; list++) {
                sizes[list] = UNMADE;
            }
        }

        boolean isList(int list) {
            return list >= 0 && list < LISTS;
        }

        boolean isMade(int list) {
            return isList(list) && sizes[list] >= 0;
        }

        boolean hasPlace(int list, long i) {
            return isList(list) && i >= 0 && i < sizes[list] && i < PLACES;
        }

        boolean hasRow(int list, int i, int n) {
            return isList(list) && i >= 0 && n >= 0 && (long) i + n <= sizes[list];
        }

        void make(int list, int n) {
            if (isList(list) && n >= 0 && n <= PLACES) {
                sizes[list] = n;
                Arrays.fill(places, list * PLACES, list * PLACES + n, 0);
            }
        }

        void put(int list, int i, long v) {
            if (hasPlace(list, i)) {
                places[list * PLACES + i] = v;
            }
        }

        long at(int list, int i) {
            return hasPlace(list, i) ? places[list * PLACES + i] : NO;
        }

        void carry(int list, int i, int other, int j, int n) {
            if (hasRow(list, i, n) && hasRow(other, j, n)) {
                System.arraycopy(places, list * PLACES + i, places, other * PLACES + j, n);
            }
        }
    }

    /** The shortest way from a cell to one below it. */
    private static final class Trail {
        private final int[] met = new int[CELLS];
        private final int[] onward = new int[CELLS];

        /** Goes back from a cell, till all that it reads are met: how many steps there are from the other, or -1. */
        int trace(Cells cells, int from, int to) {
            if (!isCell(from) || !isCell(to)) {
                return -1;
            }
            long seen = bit(to);
            int count = 1;
            met[0] = to;
            onward[to] = to;
            for (int next = 0; next < count && next < CELLS; next++) {
                int cell = met[next];
                for (int i = 0; i < cells.readCount(cell); i++) {
                    int read = cells.readOf(cell, i);
                    if (isCell(read) && !has(seen, read) && count < CELLS) {
                        seen |= bit(read);
                        onward[read] = cell;
                        met[count] = read;
                        count++;
                    }
                }
            }
            return has(seen, from) ? stepsTo(from, to) : -1;
        }

        private int stepsTo(int from, int to) {
            int steps = 0;
            for (int cell = from; cell != to && steps < CELLS; steps++) {
                cell = onward(cell);
            }
            return steps;
        }

        private int onward(int cell) {
            return isCell(cell) ? onward[cell] : cell;
        }

        int cellAt(int from, int i) {
            int cell = from;
            for (int steps = 0; steps < i && steps < CELLS; steps++) {
                cell = onward(cell);
            }
            return cell;
        }
    }
}
