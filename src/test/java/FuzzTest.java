/** Long runs of calls, made up from a fixed seed, held against the model: all promises at once. */
public final class FuzzTest {
    private static final int RUNS = 600;
    private static final int CALLS = 400;

    private long seed;
    private ReactiveSheet sheet;
    private Model model;
    private int range;
    private final StringBuilder story = new StringBuilder();
    private static int wrong = 0;
    private static long checks = 0;

    public static void main(String[] args) {
        int runs = args.length > 0 ? Integer.parseInt(args[0]) : RUNS;
        long from = args.length > 1 ? Long.parseLong(args[1]) : 0;
        for (int run = 0; run < runs && wrong == 0; run++) {
            new FuzzTest(from + run).run();
        }
        System.out.println("FuzzTest: " + runs + " runs, " + checks + " answers, " + wrong + " not as due");
        if (wrong > 0) {
            System.exit(1);
        }
    }

    private FuzzTest(long run) {
        seed = run * 7919 + 17;
        pick(2);
    }

    private int pick(int n) {
        seed = seed * 6364136223846793005L + 1442695040888963407L;
        return (int) Math.floorMod(seed >>> 33, (long) n);
    }

    private boolean chance(int percent) {
        return pick(100) < percent;
    }

    private void run() {
        sheet = new ReactiveSheet();
        model = new Model();
        range = new int[] {4, 6, 9, 14, 32}[pick(5)];
        for (int call = 0; call < CALLS && wrong == 0; call++) {
            one();
            if (call % 16 == 15 || call == CALLS - 1) {
                compareAll();
            }
        }
        if (wrong > 0) {
            System.out.println(story);
        }
    }

    private void due(String call, long got, long want) {
        checks++;
        if (got != want) {
            wrong++;
            System.out.println(call + " answered " + got + ", due is " + want);
        }
    }

    private void told(String call, long got, long want) {
        story.append(call).append(" -> ").append(want).append('\n');
        due(call, got, want);
    }

    // ---- what calls are made of

    private int cell() {
        return chance(3) ? new int[] {-1, 32, 31, Integer.MAX_VALUE, Integer.MIN_VALUE, 0}[pick(6)] : pick(range);
    }

    private long number() {
        switch (pick(12)) {
            case 0: return Long.MAX_VALUE - pick(3);
            case 1: return Long.MIN_VALUE + pick(3);
            case 2: return (1L << 32) + pick(9) - 4;
            case 3: return -pick(40);
            default: return pick(12);
        }
    }

    private int size() {
        return chance(6) ? new int[] {-1, Integer.MIN_VALUE, Integer.MAX_VALUE, 41, 40}[pick(5)] : pick(7);
    }

    private int list() {
        return chance(4) ? new int[] {-1, 4, Integer.MAX_VALUE, Integer.MIN_VALUE}[pick(4)] : pick(4);
    }

    private String figures(int number) {
        String zeros = chance(15) ? "0000000".substring(0, pick(8)) : "";
        return zeros + number;
    }

    private String cellFigures(int cell) {
        return (cell < 10 && chance(15) ? "0" : "") + cell;
    }

    private String expression(int deep) {
        if (chance(18)) {
            return comparison(deep) + "?" + comparison(deep) + ":" + expression(deep);
        }
        return comparison(deep);
    }

    private String comparison(int deep) {
        return chance(25) ? sum(deep) + "<=>".charAt(pick(3)) + sum(deep) : sum(deep);
    }

    private String sum(int deep) {
        String text = product(deep);
        for (int i = 0; i < 3 && chance(25); i++) {
            text += "+-".charAt(pick(2)) + product(deep);
        }
        return text;
    }

    private String product(int deep) {
        String text = factor(deep);
        for (int i = 0; i < 3 && chance(18); i++) {
            text += "*/".charAt(pick(2)) + factor(deep);
        }
        return text;
    }

    private String factor(int deep) {
        int which = pick(deep < 3 ? 20 : 10);
        if (which < 3) {
            return figures(new int[] {pick(10), pick(40), pick(1000), 999999999}[pick(4)]).replaceAll("^0*(?=.{10})", "");
        }
        if (which < 8) {
            return "#" + cellFigures(pick(range));
        }
        if (which < 10) {
            int from = pick(range);
            return "s" + cellFigures(from) + "-" + cellFigures(from + pick(Math.min(range - from, 6)));
        }
        switch (which) {
            case 10: return "-" + factor(deep + 1);
            case 11:
            case 12: return "@" + factor(deep + 1);
            case 13: return "!" + factor(deep + 1);
            case 14: return "l(" + expression(deep + 1) + "," + expression(deep + 1) + ")";
            case 15: return "g(" + expression(deep + 1) + "," + expression(deep + 1) + ")";
            default: return "(" + expression(deep + 1) + ")";
        }
    }

    private String text() {
        String text = expression(chance(10) ? -1 : 0);
        if (chance(12)) {
            int at = pick(text.length() + 1);
            String sign = "0123456789#s-+*/<=>?:(),@!lgx \u0001\u007f".charAt(pick(32)) + "";
            switch (pick(3)) {
                case 0: text = text.substring(0, at) + sign + text.substring(at); break;
                case 1: text = text.substring(0, at); break;
                default: text = text.substring(0, at) + sign + text.substring(Math.min(text.length(), at + 1)); break;
            }
        }
        return text;
    }

    private void type(String text) {
        for (int i = 0; i < text.length(); i++) {
            due("feed", sheet.feed(text.charAt(i)), model.feed(text.charAt(i)));
        }
        story.append("\"").append(text).append("\" ");
    }

    // ---- calls

    private void one() {
        int c = cell();
        int d = cell();
        long v = number();
        switch (pick(36)) {
            case 0: case 1: case 2: case 3: case 4: case 5:
                told("input(" + c + ", " + v + ")", sheet.input(c, v), model.input(c, v));
                break;
            case 6: case 7: case 8: case 9: case 10: case 11: case 12:
                if (chance(90)) {
                    type(text());
                }
                told("define(" + c + ")", sheet.define(c), model.define(c));
                break;
            case 13:
                told("drop(" + c + ")", sheet.drop(c), model.drop(c));
                break;
            case 14: case 15: case 16:
                told("copy(" + c + ", " + d + ")", sheet.copy(c, d), model.copy(c, d));
                break;
            case 17:
                told("freeze(" + c + ")", sheet.freeze(c), model.freeze(c));
                break;
            case 18: case 19:
                batchCall();
                break;
            case 20:
                tapeCall();
                break;
            case 21: case 22:
                told("whatIf(" + c + ", " + v + ", " + d + ")", sheet.whatIf(c, v, d), model.whatIf(c, v, d));
                told("would(" + c + ", " + v + ")", sheet.would(c, v), model.would(c, v));
                break;
            case 23: case 24:
                int n = chance(10) ? size() : pick(13);
                long goal = number();
                told("seek(" + c + ", " + v + ", " + n + ", " + d + ", " + goal + ")", sheet.seek(c, v, n, d, goal),
                        model.seek(c, v, n, d, goal));
                break;
            case 25: case 26:
                told("spell(" + c + ")", sheet.spell(c), model.spell(c));
                break;
            case 27: case 28:
                watcherCall(c, v);
                break;
            case 29: case 30: case 31: case 32: case 33:
                listCall(c, v);
                break;
            default:
                imageCall();
                break;
        }
    }

    private void batchCall() {
        int which = pick(7);
        if (which < 3) {
            told("begin()", sheet.begin(), model.begin());
        } else if (which < 6) {
            told("end()", sheet.end(), model.end());
        } else {
            told("cancel()", sheet.cancel(), model.cancel());
        }
    }

    private void tapeCall() {
        if (chance(40)) {
            told("clear()", sheet.clear(), model.clear());
        } else if (chance(50)) {
            int letter = new int[] {0, -1, 128, 127, 1, 256, Integer.MIN_VALUE}[pick(7)];
            told("feed(" + letter + ")", sheet.feed(letter), model.feed(letter));
        } else {
            String many = "1+#0*".repeat(24);
            type(many.substring(pick(2)));
        }
    }

    private void watcherCall(int c, long v) {
        if (chance(60)) {
            int kind = chance(5) ? -1 + 5 * pick(2) : pick(4);
            told("watch(" + c + ", " + kind + ", " + v + ")", sheet.watch(c, kind, v), model.watch(c, kind, v));
        } else if (chance(40)) {
            int w = pick(10) - 1;
            told("quit(" + w + ")", sheet.quit(w), model.quit(w));
        }
    }

    private void listCall(int c, long v) {
        int a = list();
        int b = list();
        int i = size();
        int j = size();
        int n = size();
        switch (pick(9)) {
            case 0: case 1:
                told("list(" + a + ", " + n + ")", sheet.list(a, n), model.list(a, n));
                break;
            case 2: case 3:
                told("set(" + a + ", " + i + ", " + v + ")", sheet.set(a, i, v), model.set(a, i, v));
                break;
            case 4:
                told("move(" + a + ", " + i + ", " + b + ", " + j + ", " + n + ")", sheet.move(a, i, b, j, n),
                        model.move(a, i, b, j, n));
                break;
            case 5: case 6:
                told("fill(" + a + ", " + i + ", " + c + ", " + n + ")", sheet.fill(a, i, c, n), model.fill(a, i, c, n));
                break;
            default:
                told("pour(" + a + ", " + i + ", " + c + ", " + n + ")", sheet.pour(a, i, c, n), model.pour(a, i, c, n));
                break;
        }
    }

    private void imageCall() {
        if (chance(55)) {
            told("image()", sheet.image(), model.image());
        } else {
            told("undo()", sheet.undo(), model.undo());
        }
    }

    // ---- all that can be asked

    private void compareAll() {
        for (int what = -1; what <= 13; what++) {
            due("told(" + what + ")", sheet.told(what), model.told(what));
        }
        for (int c = -1; c <= 32; c++) {
            compareCell(c);
        }
        for (int i = -1; i <= 33; i++) {
            due("order(" + i + ")", sheet.order(i), model.order(i));
        }
        for (int i = -1; i <= 21; i++) {
            for (int what = -1; what <= 4; what++) {
                due("past(" + i + ", " + what + ")", sheet.past(i, what), model.past(i, what));
            }
        }
        for (int i = -1; i <= 61; i++) {
            for (int what = -1; what <= 3; what++) {
                due("log(" + i + ", " + what + ")", sheet.log(i, what), model.log(i, what));
                due("logged(" + i + ", " + what + ")", sheet.logged(i, what), model.logged(i, what));
            }
        }
        for (int l = -1; l <= 4; l++) {
            for (int i = -1; i <= 41; i++) {
                due("get(" + l + ", " + i + ")", sheet.get(l, i), model.get(l, i));
            }
        }
        for (int i = -1; i <= 180; i++) {
            due("paper(" + i + ")", sheet.paper(i), model.paper(i));
        }
    }

    private void compareCell(int c) {
        due("value(" + c + ")", sheet.value(c), model.value(c));
        due("readers(" + c + ")", sheet.readers(c), model.readers(c));
        for (int what = -1; what <= 10; what++) {
            due("of(" + c + ", " + what + ")", sheet.of(c, what), model.of(c, what));
        }
        for (int i = -1; i <= 14; i++) {
            due("reads(" + c + ", " + i + ")", sheet.reads(c, i), model.reads(c, i));
            due("why(" + c + ", " + i + ")", sheet.why(c, i), model.why(c, i));
        }
        for (int to = 0; to < range; to++) {
            for (int i = -2; i <= 6; i++) {
                due("way(" + c + ", " + to + ", " + i + ")", sheet.way(c, to, i), model.way(c, to, i));
            }
        }
    }
}
