import java.util.ArrayList;
import java.util.HashMap;
import java.util.HashSet;
import java.util.List;
import java.util.Map;
import java.util.Set;
import java.util.TreeMap;

/**
 * The document told again as plainly as can be, to hold the program against: every wave is done on a copy of all that
 * there is, formulas stay texts, and cells are settled from the last one on.
 */
final class Model {
    static final long NO = Long.MIN_VALUE;

    static final class Cell {
        int kind = 0;
        int error = 3;
        long number = 0;
        String text = null;
        int runs = 0;
        int height = 0;
        int cause = -5;
        boolean changed = false;
        boolean ran = false;
        List<Integer> reads = new ArrayList<>();

        Cell copy() {
            Cell cell = new Cell();
            cell.kind = kind;
            cell.error = error;
            cell.number = number;
            cell.text = text;
            cell.runs = runs;
            cell.height = height;
            cell.cause = cause;
            cell.changed = changed;
            cell.ran = ran;
            cell.reads = new ArrayList<>(reads);
            return cell;
        }

        boolean same(Cell other) {
            return error == other.error && (error != 0 || number == other.number);
        }
    }

    /** A watcher (cell, kind, bound, whether it tells), or what one told (watcher, error, number, error, number). */
    static final class State {
        Cell[] cells = new Cell[32];
        List<long[]> watchers = new ArrayList<>();
        List<long[]> log = new ArrayList<>();

        State copy() {
            State state = new State();
            for (int i = 0; i < 32; i++) {
                state.cells[i] = cells[i] == null ? new Cell() : cells[i].copy();
            }
            for (long[] watcher : watchers) {
                state.watchers.add(watcher.clone());
            }
            for (long[] entry : log) {
                state.log.add(entry.clone());
            }
            return state;
        }
    }

    static final class Ring extends RuntimeException {
        Ring() {
            super(null, null, false, false);
        }
    }

    private State now = new State().copy();
    private State image = null;
    private Map<Integer, Cell> batch = null;
    private final List<int[]> past = new ArrayList<>();
    private String tape = "";
    private String paper = "";
    private final long[][] lists = new long[4][];

    // ---- waves

    /** One wave, done on a copy. */
    private static final class Wave {
        final State before;
        final State after;
        final Set<Integer> fresh;
        final Set<Integer> settled = new HashSet<>();
        final Set<Integer> open = new HashSet<>();

        Wave(State before, Map<Integer, Cell> told) {
            this.before = before;
            this.after = before.copy();
            this.fresh = told.keySet();
            for (Cell cell : after.cells) {
                cell.cause = -5;
                cell.changed = false;
                cell.ran = false;
            }
            for (Map.Entry<Integer, Cell> entry : told.entrySet()) {
                Cell cell = entry.getValue().copy();
                cell.changed = cell.kind != 2 && !cell.same(before.cells[entry.getKey()]);
                after.cells[entry.getKey()] = cell;
            }
            for (int i = 31; i >= 0; i--) {
                settle(i);
            }
        }

        void settle(int i) {
            Cell cell = after.cells[i];
            if (cell.kind != 2 || settled.contains(i)) {
                return;
            }
            if (!open.add(i)) {
                throw new Ring();
            }
            if (fresh.contains(i)) {
                run(i, -5);
            } else {
                for (int read : new ArrayList<>(cell.reads)) {
                    settle(read);
                    if (after.cells[read].changed) {
                        run(i, read);
                        break;
                    }
                }
            }
            cell.height = 1;
            for (int read : cell.reads) {
                cell.height = Math.max(cell.height, 1 + after.cells[read].height);
            }
            open.remove(i);
            settled.add(i);
        }

        void run(int i, int cause) {
            Cell cell = after.cells[i];
            cell.reads.clear();
            cell.runs++;
            cell.ran = true;
            cell.cause = cause;
            try {
                cell.number = Texts.work(cell.text, other -> {
                    settle(other);
                    if (!cell.reads.contains(other)) {
                        cell.reads.add(other);
                    }
                    if (after.cells[other].error != 0) {
                        throw new Texts.Erring(after.cells[other].error);
                    }
                    return after.cells[other].number;
                });
                cell.error = 0;
            } catch (Texts.Erring erring) {
                cell.error = erring.error;
            }
            cell.changed = !cell.same(before.cells[i]);
        }

        int ran() {
            int count = 0;
            for (Cell cell : after.cells) {
                count += cell.ran ? 1 : 0;
            }
            return count;
        }

        int changed() {
            int count = 0;
            for (Cell cell : after.cells) {
                count += cell.changed ? 1 : 0;
            }
            return count;
        }

        int ask() {
            int tells = 0;
            for (int w = 0; w < after.watchers.size(); w++) {
                long[] watcher = after.watchers.get(w);
                Cell was = before.cells[(int) watcher[0]];
                Cell is = after.cells[(int) watcher[0]];
                if (watcher[3] == 0 || !is.changed) {
                    continue;
                }
                boolean numbers = was.error == 0 && is.error == 0;
                boolean tell = watcher[1] == 0
                        || watcher[1] == 1 && numbers && is.number > was.number
                        || watcher[1] == 2 && numbers && (is.number < watcher[2]) != (was.number < watcher[2])
                        || watcher[1] == 3 && (is.error == 0) != (was.error == 0);
                if (tell) {
                    tells++;
                    after.log.add(new long[] {w, was.error, was.number, is.error, is.number});
                    if (after.log.size() > 60) {
                        after.log.remove(0);
                    }
                }
            }
            return tells;
        }
    }

    private int go(Map<Integer, Cell> told) {
        try {
            Wave wave = new Wave(now, told);
            past.add(0, new int[] {told.size(), wave.ran(), wave.changed(), wave.ask()});
            now = wave.after;
            return wave.ran();
        } catch (Ring ring) {
            return -7;
        }
    }

    private int tell(int i, Cell cell) {
        if (batch != null) {
            batch.put(i, cell);
            return 0;
        }
        return go(Map.of(i, cell));
    }

    private static Cell inputCell(long v) {
        Cell cell = new Cell();
        cell.kind = 1;
        cell.error = 0;
        cell.number = v;
        return cell;
    }

    private static Cell formulaCell(String text) {
        Cell cell = new Cell();
        cell.kind = 2;
        cell.text = text;
        return cell;
    }

    private static boolean out(int i) {
        return i < 0 || i > 31;
    }

    // ---- telling

    int input(int cell, long value) {
        return out(cell) ? -1 : tell(cell, inputCell(value));
    }

    int define(int cell) {
        if (out(cell)) {
            return -1;
        }
        String text = tape;
        tape = "";
        int fault = Texts.fault(text);
        return fault >= 0 ? -100 - fault : tell(cell, formulaCell(text));
    }

    int drop(int cell) {
        return out(cell) ? -1 : tell(cell, new Cell());
    }

    int copy(int cell, int to) {
        if (out(cell) || out(to)) {
            return -1;
        }
        if (now.cells[cell].kind != 2) {
            return -3;
        }
        String text = Texts.shifted(now.cells[cell].text, to - cell);
        return text == null ? -2 : tell(to, formulaCell(text));
    }

    int freeze(int cell) {
        if (out(cell)) {
            return -1;
        }
        if (now.cells[cell].kind != 2 || now.cells[cell].error != 0) {
            return -3;
        }
        return tell(cell, inputCell(now.cells[cell].number));
    }

    int begin() {
        if (batch != null) {
            return -3;
        }
        batch = new TreeMap<>();
        return 1;
    }

    int end() {
        if (batch == null) {
            return -3;
        }
        Map<Integer, Cell> told = batch;
        batch = null;
        return go(told);
    }

    int cancel() {
        if (batch == null) {
            return -3;
        }
        int count = batch.size();
        batch = null;
        return count;
    }

    int feed(int letter) {
        if (letter < 1 || letter > 127) {
            return -2;
        }
        if (tape.length() == 120) {
            return -4;
        }
        tape += (char) letter;
        return tape.length();
    }

    int clear() {
        int had = tape.length();
        tape = "";
        return had;
    }

    // ---- asking

    private static long known(Cell cell) {
        return cell.error == 0 ? cell.number : NO;
    }

    long value(int cell) {
        return out(cell) ? NO : known(now.cells[cell]);
    }

    int of(int cell, int what) {
        if (out(cell) || what < 0 || what > 9) {
            return -1;
        }
        Cell it = now.cells[cell];
        int[] facts = {it.kind, it.error, it.height, it.runs, it.reads.size(), Long.bitCount(readers(cell)),
            it.changed ? 1 : 0, it.ran ? 1 : 0, it.cause, below(cell).size()};
        return facts[what];
    }

    private Set<Integer> below(int cell) {
        Set<Integer> below = new HashSet<>();
        List<Integer> next = new ArrayList<>(List.of(cell));
        while (!next.isEmpty()) {
            int one = next.remove(0);
            for (int i = 0; i < 32; i++) {
                if (now.cells[i].reads.contains(one) && below.add(i)) {
                    next.add(i);
                }
            }
        }
        return below;
    }

    int reads(int cell, int i) {
        return out(cell) || i < 0 || i >= now.cells[cell].reads.size() ? -1 : now.cells[cell].reads.get(i);
    }

    long readers(int cell) {
        if (out(cell)) {
            return NO;
        }
        long bits = 0;
        for (int i = 0; i < 32; i++) {
            bits |= now.cells[i].reads.contains(cell) ? 1L << i : 0;
        }
        return bits;
    }

    int order(int i) {
        List<Integer> cells = new ArrayList<>();
        for (int c = 0; c < 32; c++) {
            if (now.cells[c].kind != 0) {
                cells.add(c);
            }
        }
        cells.sort((a, b) -> now.cells[a].height != now.cells[b].height ? now.cells[a].height - now.cells[b].height : a - b);
        return i < 0 || i >= cells.size() ? -1 : cells.get(i);
    }

    int why(int cell, int i) {
        if (out(cell) || i < 0) {
            return -1;
        }
        List<Integer> chain = new ArrayList<>();
        for (int c = now.cells[cell].cause; c >= 0; c = now.cells[c].cause) {
            chain.add(c);
        }
        return i < chain.size() ? chain.get(i) : -1;
    }

    int way(int from, int to, int i) {
        if (out(from) || out(to) || i < -1) {
            return -1;
        }
        Map<Integer, Integer> metFrom = new HashMap<>();
        List<Integer> turn = new ArrayList<>(List.of(to));
        metFrom.put(to, -1);
        while (!turn.isEmpty() && !metFrom.containsKey(from)) {
            int one = turn.remove(0);
            for (int read : now.cells[one].reads) {
                if (!metFrom.containsKey(read)) {
                    metFrom.put(read, one);
                    turn.add(read);
                }
            }
        }
        if (!metFrom.containsKey(from)) {
            return -5;
        }
        List<Integer> way = new ArrayList<>();
        for (int c = from; c >= 0; c = metFrom.get(c)) {
            way.add(c);
        }
        return i == -1 ? way.size() - 1 : i < way.size() ? way.get(i) : -1;
    }

    private State supposed(int cell, long v) {
        try {
            return new Wave(now, Map.of(cell, inputCell(v))).after;
        } catch (Ring ring) {
            return null;
        }
    }

    long whatIf(int cell, long v, int other) {
        if (out(cell) || out(other)) {
            return NO;
        }
        State state = supposed(cell, v);
        return state == null ? NO : known(state.cells[other]);
    }

    int would(int cell, long v) {
        if (out(cell)) {
            return -1;
        }
        try {
            return new Wave(now, Map.of(cell, inputCell(v))).ran();
        } catch (Ring ring) {
            return -7;
        }
    }

    long seek(int cell, long v, int n, int other, long goal) {
        if (out(cell) || out(other) || n < 0 || n > 12) {
            return NO;
        }
        for (int i = 0; i < n; i++) {
            if (v > 0 && v + i < 0) {
                return NO;
            }
            State state = supposed(cell, v + i);
            if (state != null && state.cells[other].error == 0 && state.cells[other].number >= goal) {
                return v + i;
            }
        }
        return NO;
    }

    int spell(int cell) {
        if (out(cell)) {
            return -1;
        }
        if (now.cells[cell].kind != 2) {
            return -3;
        }
        paper = Texts.spelling(now.cells[cell].text);
        return paper.length();
    }

    int paper(int i) {
        return i < 0 || i >= paper.length() ? -1 : paper.charAt(i);
    }

    // ---- watchers

    int watch(int cell, int kind, long bound) {
        if (out(cell) || kind < 0 || kind > 3) {
            return -1;
        }
        if (now.watchers.size() == 8) {
            return -4;
        }
        now.watchers.add(new long[] {cell, kind, bound, 1});
        return now.watchers.size() - 1;
    }

    int quit(int watcher) {
        if (watcher < 0 || watcher >= now.watchers.size()) {
            return -1;
        }
        long[] it = now.watchers.get(watcher);
        int told = (int) it[3];
        it[3] = 0;
        return told;
    }

    int log(int i, int what) {
        if (i < 0 || i >= now.log.size() || what < 0 || what > 2) {
            return -1;
        }
        long[] it = now.log.get(i);
        return (int) (what == 0 ? it[0] : what == 1 ? it[1] : it[3]);
    }

    long logged(int i, int what) {
        if (i < 0 || i >= now.log.size() || what < 0 || what > 1) {
            return NO;
        }
        long[] it = now.log.get(i);
        return it[1 + 2 * what] != 0 ? NO : it[2 + 2 * what];
    }

    int told(int what) {
        int[] facts = new int[13];
        for (Cell cell : now.cells) {
            facts[0] += cell.kind == 1 ? 1 : 0;
            facts[1] += cell.kind == 2 ? 1 : 0;
            facts[2] += cell.ran ? 1 : 0;
            facts[3] += cell.changed ? 1 : 0;
            facts[4] += cell.runs;
            facts[12] = Math.max(facts[12], cell.height);
        }
        facts[5] = past.size();
        facts[6] = now.watchers.size();
        facts[7] = now.log.size();
        facts[8] = batch == null ? 0 : 1;
        facts[9] = batch == null ? 0 : batch.size();
        facts[10] = tape.length();
        facts[11] = paper.length();
        return what < 0 || what > 12 ? -1 : facts[what];
    }

    int past(int i, int what) {
        return i < 0 || i >= past.size() || i > 19 || what < 0 || what > 3 ? -1 : past.get(i)[what];
    }

    // ---- lists, the image

    private static boolean outList(int list) {
        return list < 0 || list > 3;
    }

    int list(int list, int n) {
        if (outList(list)) {
            return -1;
        }
        if (n > 40) {
            return -2;
        }
        if (n < 0) {
            return -14;
        }
        lists[list] = new long[n];
        return 1;
    }

    int set(int list, int i, long v) {
        if (outList(list)) {
            return -1;
        }
        if (lists[list] == null) {
            return -11;
        }
        if (i < 0 || i >= lists[list].length) {
            return -13;
        }
        lists[list][i] = v;
        return 1;
    }

    long get(int list, int i) {
        return outList(list) || lists[list] == null || i < 0 || i >= lists[list].length ? NO : lists[list][i];
    }

    int move(int list, int i, int other, int j, int n) {
        if (outList(list) || outList(other)) {
            return -1;
        }
        if (lists[list] == null || lists[other] == null) {
            return -11;
        }
        if (n < 0 || i < 0 || j < 0 || (long) i + n > lists[list].length || (long) j + n > lists[other].length) {
            return -13;
        }
        long[] was = lists[list].clone();
        for (int k = 0; k < n; k++) {
            lists[other][j + k] = was[i + k];
        }
        return n;
    }

    int fill(int list, int i, int cell, int n) {
        if (outList(list) || out(cell)) {
            return -1;
        }
        if (n < 0 || cell + (long) n > 32) {
            return -2;
        }
        if (lists[list] == null) {
            return -11;
        }
        for (int k = 0; k < n; k++) {
            if (i < 0 || (long) i + k >= lists[list].length) {
                return -13;
            }
            Cell it = now.cells[cell + k];
            lists[list][i + k] = it.error == 0 ? it.number : NO + it.error;
        }
        return n;
    }

    int pour(int list, int i, int cell, int n) {
        if (outList(list) || out(cell)) {
            return -1;
        }
        if (n < 0 || cell + (long) n > 32) {
            return -2;
        }
        if (lists[list] == null) {
            return -11;
        }
        for (int k = 0; k < n; k++) {
            long place = (long) i + k;
            if (place < 0 || place >= lists[list].length) {
                return -13;
            }
        }
        if (batch != null) {
            return -3;
        }
        Map<Integer, Cell> told = new TreeMap<>();
        for (int k = 0; k < n; k++) {
            told.put(cell + k, inputCell(lists[list][i + k]));
        }
        return go(told);
    }

    private int present() {
        int count = 0;
        for (Cell cell : now.cells) {
            count += cell.kind != 0 ? 1 : 0;
        }
        return count;
    }

    int image() {
        if (batch != null) {
            return -3;
        }
        image = now.copy();
        return present();
    }

    int undo() {
        if (image == null || batch != null) {
            return -3;
        }
        now = image.copy();
        return present();
    }
}
