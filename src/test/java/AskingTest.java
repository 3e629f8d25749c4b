/** Promises 12 to 23: what is asked. */
public final class AskingTest {
    private static final long MAX = Long.MAX_VALUE;
    private static final long NO = ReactiveSheet.NO;
    private static final Check check = new Check("AskingTest");

    public static void main(String[] args) {
        value();
        of();
        ofHeights();
        reads();
        readers();
        order();
        why();
        way();
        wayOfSeveral();
        whatIf();
        would();
        seek();
        seekRings();
        spell();
        paper();
        askingChangesNothing();
        deepest();
        check.end();
    }

    /** 0 and 1 inputs; 2 to 5 a stair of formulas; 6 an error. */
    private static ReactiveSheet stair() {
        ReactiveSheet sheet = new ReactiveSheet();
        sheet.input(0, 2);
        sheet.input(1, 3);
        Check.define(sheet, 2, "#0+#1");
        Check.define(sheet, 3, "#2*#0");
        Check.define(sheet, 4, "#3+#2");
        Check.define(sheet, 5, "#4+1");
        Check.define(sheet, 6, "#5/#9");
        return sheet;
    }

    private static void value() {
        ReactiveSheet sheet = stair();
        check.due("12: an input", sheet.value(1), 3);
        check.due("12: a formula", sheet.value(5), 16);
        check.due("12: an error", sheet.value(6), NO);
        check.due("12: an absent one", sheet.value(7), NO);
        check.due("12: value(-1)", sheet.value(-1), NO);
        check.due("12: value(32)", sheet.value(32), NO);
        check.due("12: value(MIN)", sheet.value(Integer.MIN_VALUE), NO);
    }

    private static void of() {
        ReactiveSheet sheet = stair();
        check.due("13: of(7, 0)", sheet.of(7, 0), 0);
        check.due("13: of(0, 0)", sheet.of(0, 0), 1);
        check.due("13: of(2, 0)", sheet.of(2, 0), 2);
        check.due("13: of(0, 1)", sheet.of(0, 1), 0);
        check.due("13: of(6, 1)", sheet.of(6, 1), 3);
        check.due("13: of(0, 2)", sheet.of(0, 2), 0);
        check.due("13: of(5, 2)", sheet.of(5, 2), 4);
        check.due("13: of(6, 2)", sheet.of(6, 2), 5);
        check.due("13: of(0, 3)", sheet.of(0, 3), 0);
        check.due("13: of(2, 3)", sheet.of(2, 3), 1);
        check.due("13: of(2, 4)", sheet.of(2, 4), 2);
        check.due("13: of(0, 4)", sheet.of(0, 4), 0);
        check.due("13: of(2, 5)", sheet.of(2, 5), 2);
        check.due("13: of(9, 5)", sheet.of(9, 5), 1);
        check.due("13: of(9, 9)", sheet.of(9, 9), 1);
        check.due("13: of(0, 9)", sheet.of(0, 9), 5);
        check.due("13: of(2, 9)", sheet.of(2, 9), 4);
        check.due("13: of(6, 9)", sheet.of(6, 9), 0);
        sheet.input(0, 5);
        check.due("13: of(0, 6)", sheet.of(0, 6), 1);
        check.due("13: of(0, 7)", sheet.of(0, 7), 0);
        check.due("13: of(0, 8)", sheet.of(0, 8), -5);
        check.due("13: of(1, 6)", sheet.of(1, 6), 0);
        check.due("13: of(3, 6)", sheet.of(3, 6), 1);
        check.due("13: of(3, 7)", sheet.of(3, 7), 1);
        check.due("13: 3 read 2 first", sheet.of(3, 8), 2);
        check.due("13: 4 read 3 first", sheet.of(4, 8), 3);
        check.due("13: 6 ran", sheet.of(6, 7), 1);
        check.due("13: and is the same error", sheet.of(6, 6), 0);
        check.due("13: of(3, 3)", sheet.of(3, 3), 2);
        sheet.input(31, 1);
        check.due("13: only of the latest wave", sheet.of(3, 7), 0);
        check.due("13: only of the latest wave", sheet.of(3, 8), -5);
        check.due("13: of(31, 6)", sheet.of(31, 6), 1);
        check.due("13: of(-1, 0)", sheet.of(-1, 0), -1);
        check.due("13: of(32, 0)", sheet.of(32, 0), -1);
        check.due("13: of(0, -1)", sheet.of(0, -1), -1);
        check.due("13: of(0, 10)", sheet.of(0, 10), -1);
    }

    /** A height is told by what a formula reads now, whether it ran or not. */
    private static void ofHeights() {
        ReactiveSheet sheet = new ReactiveSheet();
        check.due("13: define(1)", Check.define(sheet, 1, "5"), 1);
        check.due("13: one that reads none", sheet.of(1, 2), 1);
        Check.define(sheet, 2, "#9");
        check.due("13: one that reads an absent one", sheet.of(2, 2), 1);
        Check.define(sheet, 3, "#1+1");
        Check.define(sheet, 4, "#3");
        check.due("13: of(4, 2)", sheet.of(4, 2), 3);
        check.due("13: 1 is 5 as before", sheet.input(1, 5), 0);
        check.due("13: of(3, 2)", sheet.of(3, 2), 1);
        check.due("13: of(4, 2)", sheet.of(4, 2), 2);
        check.due("13: of(4, 3)", sheet.of(4, 3), 1);
        check.due("13: 1 reads 7 now", Check.define(sheet, 1, "!#7*5"), 1);
        check.due("13: of(4, 2)", sheet.of(4, 2), 3);
        check.due("13: and 7 is a formula", Check.define(sheet, 7, "#30"), 1);
        check.due("13: of(1, 2)", sheet.of(1, 2), 2);
        check.due("13: of(4, 2)", sheet.of(4, 2), 4);
        check.due("13: told(12)", sheet.told(12), 4);
    }

    private static void reads() {
        ReactiveSheet sheet = stair();
        check.due("14: reads(3)", Check.reads(sheet, 3), "2 0");
        check.due("14: reads(3, 2)", sheet.reads(3, 2), -1);
        check.due("14: reads(3, -1)", sheet.reads(3, -1), -1);
        check.due("14: reads(3, MAX)", sheet.reads(3, Integer.MAX_VALUE), -1);
        check.due("14: an input", sheet.reads(0, 0), -1);
        check.due("14: reads(-1, 0)", sheet.reads(-1, 0), -1);
        check.due("14: reads(32, 0)", sheet.reads(32, 0), -1);
    }

    private static void readers() {
        ReactiveSheet sheet = stair();
        check.due("15: readers(0)", sheet.readers(0), 0b1100);
        check.due("15: readers(2)", sheet.readers(2), 0b11000);
        check.due("15: readers(9)", sheet.readers(9), 0b1000000);
        check.due("15: readers(6)", sheet.readers(6), 0);
        check.due("15: readers(-1)", sheet.readers(-1), NO);
        check.due("15: readers(32)", sheet.readers(32), NO);
        Check.define(sheet, 31, "#6");
        check.due("15: the last bit", sheet.readers(6), 1L << 31);
    }

    private static void order() {
        ReactiveSheet sheet = stair();
        sheet.input(20, 1);
        int[] due = {0, 1, 20, 2, 3, 4, 5, 6, -1};
        for (int i = 0; i < due.length; i++) {
            check.due("16: order(" + i + ")", sheet.order(i), due[i]);
        }
        Check.define(sheet, 7, "1");
        Check.define(sheet, 21, "#5");
        int[] later = {0, 1, 20, 2, 7, 3, 4, 5, 6, 21, -1};
        for (int i = 0; i < later.length; i++) {
            check.due("16: order(" + i + ") later", sheet.order(i), later[i]);
        }
        check.due("16: order(-1)", sheet.order(-1), -1);
        check.due("16: order(MAX)", sheet.order(Integer.MAX_VALUE), -1);
        check.due("16: order(MIN)", sheet.order(Integer.MIN_VALUE), -1);
    }

    private static void why() {
        ReactiveSheet sheet = stair();
        check.due("17: a formula that was told", sheet.why(6, 0), -1);
        sheet.input(1, 4);
        int[] due = {4, 3, 2, 1, -1};
        for (int i = 0; i < due.length; i++) {
            check.due("17: why(5, " + i + ")", sheet.why(5, i), due[i]);
        }
        check.due("17: an input", sheet.why(1, 0), -1);
        check.due("17: why(-1, 0)", sheet.why(-1, 0), -1);
        check.due("17: why(32, 0)", sheet.why(32, 0), -1);
        check.due("17: why(5, -1)", sheet.why(5, -1), -1);
        check.due("17: why(5, MAX)", sheet.why(5, Integer.MAX_VALUE), -1);
        Check.define(sheet, 3, "#2");
        check.due("17: it ends at a formula that was told", sheet.why(5, 1), 3);
        check.due("17: it ends at a formula that was told", sheet.why(5, 2), -1);
    }

    private static void way() {
        ReactiveSheet sheet = stair();
        check.due("18: way(0, 5, -1)", sheet.way(0, 5, -1), 3);
        int[] due = {0, 3, 4, 5, -1};
        for (int i = 0; i < due.length; i++) {
            check.due("18: way(0, 5, " + i + ")", sheet.way(0, 5, i), due[i]);
        }
        check.due("18: way(1, 3, -1)", sheet.way(1, 3, -1), 2);
        check.due("18: way(9, 6, -1)", sheet.way(9, 6, -1), 1);
        check.due("18: the other way", sheet.way(5, 0, -1), -5);
        check.due("18: the other way", sheet.way(5, 0, 7), -5);
        check.due("18: the same", sheet.way(8, 8, -1), 0);
        check.due("18: the same", sheet.way(8, 8, 0), 8);
        check.due("18: the same", sheet.way(8, 8, 1), -1);
        check.due("18: way(-1, 0, 0)", sheet.way(-1, 0, 0), -1);
        check.due("18: way(0, 32, 0)", sheet.way(0, 32, 0), -1);
        check.due("18: way(0, 5, -2)", sheet.way(0, 5, -2), -1);
        check.due("18: way(0, 5, MAX)", sheet.way(0, 5, Integer.MAX_VALUE), -1);
        check.due("18: NONE ahead of -5", sheet.way(5, 0, -2), -1);
    }

    /** Of several ways with the fewest steps the one that is found going back, by the order in which cells were read. */
    private static void wayOfSeveral() {
        ReactiveSheet sheet = new ReactiveSheet();
        sheet.input(0, 1);
        Check.define(sheet, 1, "#0");
        Check.define(sheet, 2, "#0");
        Check.define(sheet, 3, "#2+#1");
        Check.define(sheet, 4, "#1");
        Check.define(sheet, 5, "#4+#3");
        check.due("18: 3 read 2 first", sheet.way(0, 3, 1), 2);
        check.due("18: 5 met 4, then 3, then by 4 1", sheet.way(0, 5, -1), 3);
        check.due("18: way(0, 5, 1)", sheet.way(0, 5, 1), 1);
        check.due("18: way(0, 5, 2)", sheet.way(0, 5, 2), 4);
        Check.define(sheet, 5, "#3+#4");
        check.due("18: 5 met 3, then 4, by 3 2", sheet.way(0, 5, 1), 2);
        check.due("18: way(0, 5, 2)", sheet.way(0, 5, 2), 3);
        check.due("18: by 3 1 was met as well", sheet.way(1, 5, 1), 3);
    }

    private static void whatIf() {
        ReactiveSheet sheet = stair();
        check.due("19: whatIf(0, 10, 5)", sheet.whatIf(0, 10, 5), 144);
        check.due("19: the cell itself", sheet.whatIf(0, 10, 0), 10);
        check.due("19: a formula as an input", sheet.whatIf(3, 1, 5), 7);
        check.due("19: an absent one", sheet.whatIf(9, 4, 6), 4);
        check.due("19: an error", sheet.whatIf(0, 10, 6), NO);
        check.due("19: one that isn't below it", sheet.whatIf(5, 1, 2), 5);
        check.due("19: OVER", sheet.whatIf(0, MAX, 5), NO);
        check.due("19: whatIf(-1, 1, 0)", sheet.whatIf(-1, 1, 0), NO);
        check.due("19: whatIf(0, 1, 32)", sheet.whatIf(0, 1, 32), NO);
        check.due("19: all is as it was", sheet.value(5), 16);
        check.due("19: all is as it was", sheet.of(5, 3), 1);
        check.due("19: all is as it was", sheet.told(5), 7);
        check.due("19: all is as it was", sheet.of(3, 0), 2);
        Check.define(sheet, 10, "@#11");
        check.due("19: a ring", sheet.whatIf(11, 10, 0), NO);
        check.due("19: no ring", sheet.whatIf(11, 0, 10), 2);
        check.due("19: reads are as they were", Check.reads(sheet, 10), "11");
    }

    private static void would() {
        ReactiveSheet sheet = stair();
        check.due("20: would(0, 10)", sheet.would(0, 10), 5);
        check.due("20: would(0, 2)", sheet.would(0, 2), 0);
        check.due("20: would(3, 10)", sheet.would(3, 10), 0);
        check.due("20: would(3, 11)", sheet.would(3, 11), 3);
        check.due("20: would(31, 0)", sheet.would(31, 0), 0);
        check.due("20: would(-1, 0)", sheet.would(-1, 0), -1);
        check.due("20: would(32, 0)", sheet.would(32, 0), -1);
        check.due("20: all is as it was", sheet.told(5), 7);
        check.due("20: all is as it was", sheet.told(4), 5);
        Check.define(sheet, 10, "@#11");
        check.due("20: a ring", sheet.would(11, 10), -7);
        check.due("20: behind a ring", sheet.value(5), 16);
        check.due("20: behind a ring", sheet.of(10, 7), 1);
    }

    private static void seek() {
        ReactiveSheet sheet = stair();
        check.due("21: the first", sheet.seek(0, 0, 12, 5, 16), 2);
        check.due("21: one above", sheet.seek(0, 0, 12, 5, 17), 3);
        check.due("21: from there on", sheet.seek(0, 7, 12, 5, 17), 7);
        check.due("21: just the last", sheet.seek(0, -10, 12, 0, 1), 1);
        check.due("21: just behind the last", sheet.seek(0, -11, 12, 0, 1), NO);
        check.due("21: n 0", sheet.seek(0, 5, 0, 0, 0), NO);
        check.due("21: n 1", sheet.seek(0, 5, 1, 0, 5), 5);
        check.due("21: n 13", sheet.seek(0, 5, 13, 0, 5), NO);
        check.due("21: n -1", sheet.seek(0, 5, -1, 0, 5), NO);
        check.due("21: cells", sheet.seek(-1, 5, 1, 0, 5), NO);
        check.due("21: cells", sheet.seek(0, 5, 1, 32, 5), NO);
        check.due("21: an error is none", sheet.seek(0, 5, 12, 6, NO), NO);
        check.due("21: a goal of MIN", sheet.seek(0, 5, 12, 5, NO), 5);
        check.due("21: to the end of longs", sheet.seek(0, MAX - 3, 12, 0, MAX), MAX);
        check.due("21: beyond it there is none", sheet.seek(0, MAX - 3, 12, 1, MAX), NO);
        check.due("21: MAX itself", sheet.seek(0, MAX, 1, 0, MAX), MAX);
        check.due("21: from MIN on", sheet.seek(0, NO, 12, 0, NO + 4), NO + 4);
        check.due("21: all is as it was", sheet.value(0), 2);
        check.due("21: all is as it was", sheet.told(5), 7);
    }

    private static void seekRings() {
        ReactiveSheet sheet = new ReactiveSheet();
        sheet.input(0, 9);
        sheet.input(5, 70);
        Check.define(sheet, 3, "@#0");
        check.due("21: 3 would be a ring", sheet.seek(0, 2, 12, 3, 60), 5);
        check.due("21: it ends ahead of 5", sheet.seek(0, 2, 3, 3, 60), NO);
        check.due("21: all is as it was", sheet.value(0), 9);
        check.due("21: all is as it was", sheet.of(3, 1), 3);
    }

    private static void spell() {
        ReactiveSheet sheet = stair();
        check.due("22: spell(4)", sheet.spell(4), 5);
        check.due("22: the paper", Check.paper(sheet), "#3+#2");
        check.due("22: spell(0)", sheet.spell(0), -3);
        check.due("22: spell(9)", sheet.spell(9), -3);
        check.due("22: spell(-1)", sheet.spell(-1), -1);
        check.due("22: spell(32)", sheet.spell(32), -1);
        check.due("22: the paper stays", Check.paper(sheet), "#3+#2");
        check.due("22: the paper is the latest one's", Check.spelling(sheet, 6), "#5/#9");
        StringBuilder text = new StringBuilder("#0");
        for (int i = 0; i < 39; i++) {
            text.append("+#0");
        }
        check.due("22: a long one", Check.define(sheet, 10, text.toString()), 1);
        check.due("22: a copy may be longer", sheet.copy(10, 20), 1);
        check.due("22: two figures where there was one", sheet.spell(20), 159);
        check.due("22: each of them", Check.paper(sheet), text.toString().replace("#0", "#10"));
        check.due("22: as long as any", sheet.told(11), 159);
    }

    private static void paper() {
        ReactiveSheet sheet = stair();
        check.due("23: nothing at first", sheet.paper(0), -1);
        sheet.spell(3);
        check.due("23: paper(0)", sheet.paper(0), '#');
        check.due("23: paper(1)", sheet.paper(1), '2');
        check.due("23: paper(2)", sheet.paper(2), '*');
        check.due("23: paper(4)", sheet.paper(4), '0');
        check.due("23: paper(5)", sheet.paper(5), -1);
        check.due("23: paper(-1)", sheet.paper(-1), -1);
        check.due("23: paper(MAX)", sheet.paper(Integer.MAX_VALUE), -1);
        sheet.drop(3);
        check.due("23: it stays", sheet.paper(0), '#');
        Check.define(sheet, 3, "8");
        sheet.spell(3);
        check.due("23: it is the latest", sheet.paper(0), '8');
        check.due("23: it is the latest", sheet.paper(1), -1);
    }

    private static void askingChangesNothing() {
        ReactiveSheet sheet = stair();
        sheet.watch(5, 0, 0);
        sheet.input(0, 3);
        sheet.whatIf(1, 9, 5);
        sheet.would(1, 9);
        sheet.seek(1, 9, 12, 5, MAX);
        check.due("19: no log", sheet.told(7), 1);
        check.due("19: no wave", sheet.told(5), 8);
        check.due("19: what ran in the latest one", sheet.told(2), 5);
        check.due("19: what was changed in it", sheet.told(3), 5);
        check.due("19: the cause in it", sheet.of(4, 8), 3);
        check.due("19: past", sheet.past(0, 1), 5);
        sheet.begin();
        sheet.input(0, 50);
        check.due("19: within a batch all is as ahead of it", sheet.whatIf(1, 3, 2), 6);
        check.due("20: within a batch all is as ahead of it", sheet.would(1, 4), 5);
        check.due("19: it tells what it told", sheet.told(9), 1);
        sheet.end();
        check.due("19: value(2)", sheet.value(2), 53);
    }

    /** All 32 cells in one chain, all told at once: settled from the far end. */
    private static void deepest() {
        ReactiveSheet sheet = new ReactiveSheet();
        sheet.begin();
        for (int cell = 0; cell < 31; cell++) {
            Check.define(sheet, cell, "s" + (cell + 1) + "-" + (cell + 1) + "+1");
        }
        sheet.input(31, 5);
        check.due("8: end()", sheet.end(), 31);
        check.due("12: value(0)", sheet.value(0), 36);
        check.due("13: of(0, 2)", sheet.of(0, 2), 31);
        check.due("2: input(31, 6)", sheet.input(31, 6), 31);
        check.due("17: why(0, 30)", sheet.why(0, 30), 31);
        check.due("17: why(0, 31)", sheet.why(0, 31), -1);
        check.due("18: way(31, 0, -1)", sheet.way(31, 0, -1), 31);
        check.due("18: way(31, 0, 31)", sheet.way(31, 0, 31), 0);
        check.due("13: of(31, 9)", sheet.of(31, 9), 31);
        check.due("16: order(31)", sheet.order(31), 0);
        check.due("3: a ring of all", Check.define(sheet, 31, "s0-0"), -7);
        check.due("12: value(0)", sheet.value(0), 37);
    }
}
