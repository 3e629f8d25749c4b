/** Promises 1 to 11: a new object, and what is told. */
public final class TellingTest {
    private static final long MAX = Long.MAX_VALUE;
    private static final Check check = new Check("TellingTest");

    public static void main(String[] args) {
        newObject();
        input();
        inputWaves();
        define();
        drop();
        copy();
        freeze();
        batch();
        batchLatestCounts();
        batchRing();
        cancel();
        feed();
        clear();
        rings();
        check.end();
    }

    private static void newObject() {
        ReactiveSheet sheet = new ReactiveSheet();
        for (int cell = 0; cell < 32; cell++) {
            check.due("1: of(" + cell + ", 0)", sheet.of(cell, 0), 0);
            check.due("1: of(" + cell + ", 1)", sheet.of(cell, 1), 3);
            check.due("1: of(" + cell + ", 8)", sheet.of(cell, 8), -5);
            check.due("1: value(" + cell + ")", sheet.value(cell), ReactiveSheet.NO);
        }
        for (int what = 0; what <= 12; what++) {
            check.due("1: told(" + what + ")", sheet.told(what), 0);
        }
        for (int list = 0; list < 4; list++) {
            check.due("1: get(" + list + ", 0)", sheet.get(list, 0), ReactiveSheet.NO);
        }
        check.due("1: NONE", ReactiveSheet.NONE, -1);
        check.due("1: BAD", ReactiveSheet.BAD, -2);
        check.due("1: STATE", ReactiveSheet.STATE, -3);
        check.due("1: FULL", ReactiveSheet.FULL, -4);
        check.due("1: RING", ReactiveSheet.RING, -7);
        check.due("1: NO", ReactiveSheet.NO, Long.MIN_VALUE);
    }

    private static void input() {
        ReactiveSheet sheet = new ReactiveSheet();
        check.due("2: input(-1, 1)", sheet.input(-1, 1), -1);
        check.due("2: input(32, 1)", sheet.input(32, 1), -1);
        check.due("2: input(MIN, 1)", sheet.input(Integer.MIN_VALUE, 1), -1);
        check.due("2: no wave is a refused one", sheet.told(5), 0);
        check.due("2: input(0, 5)", sheet.input(0, 5), 0);
        check.due("2: input(31, MIN)", sheet.input(31, Long.MIN_VALUE), 0);
        check.due("2: of(31, 1)", sheet.of(31, 1), 0);
        check.due("2: value(31)", sheet.value(31), Long.MIN_VALUE);
        Check.define(sheet, 1, "#0+1");
        Check.define(sheet, 2, "#1*0");
        Check.define(sheet, 3, "#2+#0");
        check.due("2: three read it", sheet.input(0, 6), 3);
        check.due("2: value(1)", sheet.value(1), 7);
        check.due("2: value(3)", sheet.value(3), 6);
        check.due("2: the same value stops the wave", sheet.input(0, 6), 0);
        check.due("2: it is no change", sheet.told(3), 0);
        check.due("2: a formula becomes an input", sheet.input(1, 7), 0);
        check.due("2: of(1, 0)", sheet.of(1, 0), 1);
        check.due("2: of(1, 3)", sheet.of(1, 3), 0);
        check.due("2: of(1, 4)", sheet.of(1, 4), 0);
        check.due("2: it reads 0 no more", sheet.readers(0), 1L << 3);
    }

    /** Equal values stop a wave: what reads a cell that ran, and is as it was, doesn't run. */
    private static void inputWaves() {
        ReactiveSheet sheet = new ReactiveSheet();
        sheet.input(0, 3);
        sheet.input(1, 100);
        Check.define(sheet, 2, "#0>0");
        Check.define(sheet, 3, "#2?#1:#0");
        Check.define(sheet, 4, "#3");
        check.due("2: only 2 runs", sheet.input(0, 9), 1);
        check.due("2: of(2, 7)", sheet.of(2, 7), 1);
        check.due("2: of(2, 6)", sheet.of(2, 6), 0);
        check.due("2: of(3, 7)", sheet.of(3, 7), 0);
        check.due("2: now 3 reads 0", sheet.input(0, -1), 3);
        check.due("2: reads(3)", Check.reads(sheet, 3), "2 0");
        check.due("2: cause of 3", sheet.of(3, 8), 2);
        check.due("2: it doesn't read 1 now", sheet.input(1, 5), 0);
        check.due("2: 2 is the same, 0 is not", sheet.input(0, -2), 3);
        check.due("2: its cause is 0", sheet.of(3, 8), 0);
    }

    private static void define() {
        ReactiveSheet sheet = new ReactiveSheet();
        Check.type(sheet, "7");
        check.due("3: define(-1)", sheet.define(-1), -1);
        check.due("3: define(32)", sheet.define(32), -1);
        check.due("3: the tape stays", sheet.told(10), 1);
        check.due("3: define(0)", sheet.define(0), 1);
        check.due("3: the tape is empty", sheet.told(10), 0);
        check.due("3: value(0)", sheet.value(0), 7);
        check.due("3: of(0, 0)", sheet.of(0, 0), 2);
        check.due("3: of(0, 3)", sheet.of(0, 3), 1);
        check.due("3: an empty tape", sheet.define(0), -100);
        check.due("3: value(0) is as it was", sheet.value(0), 7);
        check.due("3: a fault", Check.define(sheet, 0, "1+"), -102);
        check.due("3: the tape is empty behind it", sheet.told(10), 0);
        check.due("3: no wave is a faulty text", sheet.told(5), 1);
        Check.define(sheet, 1, "#0+1");
        check.due("3: what reads it runs too", Check.define(sheet, 0, "8"), 2);
        check.due("3: runs of a formula that is told anew", sheet.of(0, 3), 1);
        check.due("3: runs of one that read it", sheet.of(1, 3), 2);
        check.due("3: the same value stops there", Check.define(sheet, 0, "4+4"), 1);
        check.due("3: of itself", Check.define(sheet, 5, "#5"), -7);
        check.due("3: the tape is empty behind a ring", sheet.told(10), 0);
        check.due("3: of(5, 0)", sheet.of(5, 0), 0);
        check.due("3: its own error is no way out", Check.define(sheet, 5, "!#5"), -7);
    }

    private static void drop() {
        ReactiveSheet sheet = new ReactiveSheet();
        check.due("4: drop(-1)", sheet.drop(-1), -1);
        check.due("4: drop(32)", sheet.drop(32), -1);
        check.due("4: one that is absent", sheet.drop(3), 0);
        check.due("4: that is a wave", sheet.told(5), 1);
        check.due("4: with no change", sheet.told(3), 0);
        sheet.input(0, 1);
        Check.define(sheet, 1, "#0");
        Check.define(sheet, 2, "!#1");
        check.due("4: drop(0)", sheet.drop(0), 2);
        check.due("4: of(0, 0)", sheet.of(0, 0), 0);
        check.due("4: of(1, 1)", sheet.of(1, 1), 3);
        check.due("4: value(2)", sheet.value(2), 1);
        check.due("4: a formula with the error that absent ones have", sheet.drop(1), 0);
        check.due("4: of(1, 0)", sheet.of(1, 0), 0);
        check.due("4: order(0)", sheet.order(0), 2);
    }

    private static void copy() {
        ReactiveSheet sheet = new ReactiveSheet();
        for (int cell = 0; cell < 12; cell++) {
            sheet.input(cell, cell * 10);
        }
        Check.define(sheet, 20, "#0+s1-3*2?5:@#9");
        check.due("5: copy(20, 22)", sheet.copy(20, 22), 1);
        check.due("5: its text", Check.spelling(sheet, 22), "#2+s3-5*2?5:@#11");
        check.due("5: value(22)", sheet.value(22), 5);
        check.due("5: reads(22)", Check.reads(sheet, 22), "2 3 4 5");
        check.due("5: back again", sheet.copy(22, 20), 1);
        check.due("5: its text again", Check.spelling(sheet, 20), "#0+s1-3*2?5:@#9");
        check.due("5: below 0", sheet.copy(20, 19), -2);
        check.due("5: that did nothing", sheet.of(19, 0), 0);
        check.due("5: to the same", sheet.copy(20, 20), 1);
        check.due("5: it is told anew", sheet.of(20, 3), 1);
        check.due("5: copy(-1, 3)", sheet.copy(-1, 3), -1);
        check.due("5: copy(20, 32)", sheet.copy(20, 32), -1);
        check.due("5: NONE is told ahead of STATE", sheet.copy(0, -1), -1);
        check.due("5: an input", sheet.copy(0, 1), -3);
        check.due("5: an absent one", sheet.copy(31, 1), -3);
        Check.define(sheet, 0, "1?2:s0-21");
        check.due("5: also in a part that isn't worked out", sheet.copy(0, 11), -2);
        check.due("5: as far as it goes", sheet.copy(0, 10), 1);
        check.due("5: 31 is the last", Check.spelling(sheet, 10), "1?2:s10-31");
        Check.define(sheet, 25, "9");
        check.due("5: one without cells goes everywhere", sheet.copy(25, 31), 1);
        Check.define(sheet, 5, "#6");
        Check.define(sheet, 6, "7");
        Check.define(sheet, 7, "#5");
        check.due("5: 6 would read 7, that 5, that 6", sheet.copy(5, 6), -7);
        check.due("5: 6 is as it was", Check.spelling(sheet, 6), "7");
        check.due("5: 5, 7 and 22 come to it, too", sheet.copy(25, 6), 4);
        check.due("5: value(7)", sheet.value(7), 9);
    }

    private static void freeze() {
        ReactiveSheet sheet = new ReactiveSheet();
        sheet.input(0, 4);
        Check.define(sheet, 1, "#0*#0");
        Check.define(sheet, 2, "#1+1");
        Check.define(sheet, 3, "#9");
        check.due("6: freeze(-1)", sheet.freeze(-1), -1);
        check.due("6: freeze(32)", sheet.freeze(32), -1);
        check.due("6: an input", sheet.freeze(0), -3);
        check.due("6: an absent one", sheet.freeze(8), -3);
        check.due("6: an error", sheet.freeze(3), -3);
        check.due("6: the value is the same", sheet.freeze(1), 0);
        check.due("6: of(1, 0)", sheet.of(1, 0), 1);
        check.due("6: value(1)", sheet.value(1), 16);
        check.due("6: it is an input now", sheet.freeze(1), -3);
        check.due("6: 0 moves nothing", sheet.input(0, 5), 0);
        check.due("6: height of 2", sheet.of(2, 2), 1);
        check.due("6: told", sheet.past(1, 0), 1);
    }

    private static void batch() {
        ReactiveSheet sheet = new ReactiveSheet();
        check.due("8: end()", sheet.end(), -3);
        sheet.input(0, 1);
        sheet.input(1, 2);
        Check.define(sheet, 2, "#0+#1");
        check.due("7: begin()", sheet.begin(), 1);
        check.due("7: begin() again", sheet.begin(), -3);
        check.due("7: told(8)", sheet.told(8), 1);
        check.due("8: input within", sheet.input(0, 10), 0);
        check.due("8: input within, refused", sheet.input(32, 10), -1);
        check.due("8: input within", sheet.input(1, 20), 0);
        check.due("8: a fault within", Check.define(sheet, 3, "#"), -101);
        check.due("8: define within", Check.define(sheet, 3, "#2+#2"), 0);
        check.due("8: drop within", sheet.drop(9), 0);
        check.due("8: told(9)", sheet.told(9), 4);
        check.due("8: value(2) is as ahead of it", sheet.value(2), 3);
        check.due("8: 3 is no formula yet", sheet.copy(3, 4), -3);
        check.due("8: 3 is no formula yet", sheet.freeze(3), -3);
        check.due("8: 3 is no formula yet", sheet.spell(3), -3);
        check.due("8: what if is as ahead of it", sheet.whatIf(0, 5, 2), 7);
        check.due("8: freeze looks at what is", sheet.freeze(2), 0);
        check.due("8: told(5)", sheet.told(5), 3);
        check.due("8: end()", sheet.end(), 1);
        check.due("8: one wave", sheet.told(5), 4);
        check.due("8: value(2) as it was when it was frozen", sheet.value(2), 3);
        check.due("8: value(3)", sheet.value(3), 6);
        check.due("8: past(0, 0)", sheet.past(0, 0), 5);
        check.due("8: past(0, 2)", sheet.past(0, 2), 3);
        check.due("8: told(8)", sheet.told(8), 0);
        check.due("8: told(9)", sheet.told(9), 0);
        check.due("8: end() again", sheet.end(), -3);
        sheet.begin();
        check.due("8: an empty one", sheet.end(), 0);
        check.due("8: is a wave too", sheet.told(5), 5);
        check.due("8: that tells nothing", sheet.past(0, 0), 0);
        check.due("8: and nothing ran", sheet.of(3, 7), 0);
    }

    private static void batchLatestCounts() {
        ReactiveSheet sheet = new ReactiveSheet();
        sheet.begin();
        sheet.input(0, 1);
        Check.define(sheet, 0, "5");
        sheet.drop(0);
        Check.define(sheet, 1, "#0");
        sheet.input(0, 7);
        check.due("8: of one cell the latest counts", sheet.told(9), 2);
        check.due("8: end()", sheet.end(), 1);
        check.due("8: value(0)", sheet.value(0), 7);
        check.due("8: value(1)", sheet.value(1), 7);
        sheet.begin();
        sheet.input(0, 8);
        sheet.input(0, 7);
        check.due("8: the same in the end", sheet.end(), 0);
        check.due("8: no change", sheet.told(3), 0);
    }

    private static void batchRing() {
        ReactiveSheet sheet = new ReactiveSheet();
        sheet.input(0, 1);
        sheet.begin();
        sheet.input(0, 2);
        check.due("8: a ring is refused only at the end", Check.define(sheet, 1, "#2"), 0);
        Check.define(sheet, 2, "#1");
        check.due("8: a ring", sheet.end(), -7);
        check.due("8: it is over", sheet.told(8), 0);
        check.due("8: nothing is left of it", sheet.told(9), 0);
        check.due("8: nothing of it is done", sheet.value(0), 1);
        check.due("8: nothing of it is done", sheet.of(1, 0), 0);
        check.due("8: no wave", sheet.told(5), 1);
        check.due("8: it is over", sheet.end(), -3);
        check.due("8: what was told is forgotten", sheet.input(3, 3), 0);
        check.due("8: what was told is forgotten", sheet.past(0, 0), 1);
        sheet.begin();
        Check.define(sheet, 1, "#2");
        Check.define(sheet, 2, "#1");
        sheet.input(2, 4);
        check.due("8: the ring is told away", sheet.end(), 1);
        check.due("8: value(1)", sheet.value(1), 4);
    }

    private static void cancel() {
        ReactiveSheet sheet = new ReactiveSheet();
        check.due("9: cancel()", sheet.cancel(), -3);
        sheet.begin();
        check.due("9: none was told", sheet.cancel(), 0);
        sheet.begin();
        sheet.input(4, 4);
        sheet.input(4, 5);
        sheet.drop(5);
        check.due("9: two cells were told", sheet.cancel(), 2);
        check.due("9: told(8)", sheet.told(8), 0);
        check.due("9: told(9)", sheet.told(9), 0);
        check.due("9: nothing is done", sheet.of(4, 0), 0);
        check.due("9: no wave", sheet.told(5), 0);
        check.due("9: cancel() again", sheet.cancel(), -3);
        sheet.begin();
        check.due("9: the next one is empty", sheet.told(9), 0);
        check.due("9: the next one is empty", sheet.end(), 0);
    }

    private static void feed() {
        ReactiveSheet sheet = new ReactiveSheet();
        check.due("10: feed(0)", sheet.feed(0), -2);
        check.due("10: feed(128)", sheet.feed(128), -2);
        check.due("10: feed(-1)", sheet.feed(-1), -2);
        check.due("10: feed(MAX)", sheet.feed(Integer.MAX_VALUE), -2);
        check.due("10: told(10)", sheet.told(10), 0);
        check.due("10: feed(1)", sheet.feed(1), 1);
        check.due("10: feed(127)", sheet.feed(127), 2);
        sheet.clear();
        for (int i = 1; i <= 120; i++) {
            check.due("10: byte " + i, sheet.feed(i % 2 == 1 ? '1' : '+'), i);
        }
        check.due("10: FULL", sheet.feed('1'), -4);
        check.due("10: BAD ahead of FULL", sheet.feed(0), -2);
        check.due("10: it ends too early", sheet.define(0), -220);
        check.due("10: there is room again", sheet.feed('1'), 1);
        sheet.begin();
        check.due("10: within a batch", sheet.feed('2'), 2);
        check.due("10: within a batch", sheet.define(0), 0);
        check.due("10: within a batch", sheet.told(10), 0);
        sheet.end();
        check.due("10: value(0)", sheet.value(0), 12);
    }

    private static void clear() {
        ReactiveSheet sheet = new ReactiveSheet();
        check.due("11: clear()", sheet.clear(), 0);
        Check.type(sheet, "abc");
        check.due("11: clear()", sheet.clear(), 3);
        check.due("11: told(10)", sheet.told(10), 0);
        check.due("11: clear()", sheet.clear(), 0);
        check.due("11: the next text stands alone", Check.define(sheet, 0, "5"), 1);
        check.due("11: value(0)", sheet.value(0), 5);
    }

    /** A ring may come of what is found only as a formula runs; then all is as ahead of it. */
    private static void rings() {
        ReactiveSheet sheet = new ReactiveSheet();
        sheet.input(0, 1);
        sheet.input(1, 50);
        Check.define(sheet, 2, "@#0");
        Check.define(sheet, 3, "#2+1");
        sheet.watch(3, 0, 0);
        sheet.input(1, 60);
        check.due("2: 2 would come to 3, and that reads 2", sheet.input(0, 3), -7);
        check.due("2: value(0)", sheet.value(0), 1);
        check.due("2: value(3)", sheet.value(3), 61);
        check.due("2: runs of 2", sheet.of(2, 3), 2);
        check.due("2: what was changed in the latest wave", sheet.of(1, 6), 1);
        check.due("2: the cause in it", sheet.of(3, 8), 2);
        check.due("2: reads of 2", Check.reads(sheet, 2), "0 1");
        check.due("2: waves", sheet.told(5), 5);
        check.due("2: the log", sheet.told(7), 1);
        check.due("2: to itself", sheet.input(0, 2), -7);
        check.due("4: drop has no ring here", sheet.drop(0), 2);
        check.due("4: of(3, 1)", sheet.of(3, 1), 3);
        Check.define(sheet, 4, "!#5?#6:1");
        sheet.input(5, MAX);
        Check.define(sheet, 6, "#4");
        check.due("4: a ring by drop", sheet.drop(5), -7);
        check.due("4: value(5)", sheet.value(5), MAX);
        check.due("4: value(6)", sheet.value(6), 1);
    }
}
