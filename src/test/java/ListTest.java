/** Promises 30 to 37: lists, and the image. */
public final class ListTest {
    private static final int MAX = Integer.MAX_VALUE;
    private static final int MIN = Integer.MIN_VALUE;
    private static final long NO = ReactiveSheet.NO;
    private static final Check check = new Check("ListTest");

    public static void main(String[] args) {
        list();
        set();
        get();
        move();
        moveWithin();
        fill();
        pour();
        pourRefused();
        image();
        undo();
        undoWaves();
        undoLog();
        undoHeights();
        check.end();
    }

    private static ReactiveSheet rows(int... sizes) {
        ReactiveSheet sheet = new ReactiveSheet();
        for (int list = 0; list < sizes.length; list++) {
            sheet.list(list, sizes[list]);
            for (int i = 0; i < sizes[list]; i++) {
                sheet.set(list, i, 100 * (list + 1) + i);
            }
        }
        return sheet;
    }

    private static String row(ReactiveSheet sheet, int list) {
        StringBuilder text = new StringBuilder();
        for (int i = 0; sheet.get(list, i) != NO; i++) {
            text.append(i == 0 ? "" : " ").append(sheet.get(list, i));
        }
        return text.toString();
    }

    private static void list() {
        ReactiveSheet sheet = new ReactiveSheet();
        check.due("30: list(-1, 3)", sheet.list(-1, 3), -1);
        check.due("30: list(4, 3)", sheet.list(4, 3), -1);
        check.due("30: NONE ahead of BAD", sheet.list(4, 41), -1);
        check.due("30: list(0, 41)", sheet.list(0, 41), -2);
        check.due("30: list(0, MAX)", sheet.list(0, MAX), -2);
        check.due("30: list(0, -1)", sheet.list(0, -1), -14);
        check.due("30: list(0, MIN)", sheet.list(0, MIN), -14);
        check.due("30: there is none yet", sheet.set(0, 0, 1), -11);
        check.due("30: list(0, 0)", sheet.list(0, 0), 1);
        check.due("30: a row of none", sheet.set(0, 0, 1), -13);
        check.due("30: list(3, 40)", sheet.list(3, 40), 1);
        check.due("30: set(3, 39, 5)", sheet.set(3, 39, 5), 1);
        check.due("30: get(3, 39)", sheet.get(3, 39), 5);
        check.due("30: get(3, 38)", sheet.get(3, 38), 0);
        check.due("30: all 0 again", sheet.list(3, 40), 1);
        check.due("30: get(3, 39)", sheet.get(3, 39), 0);
        check.due("30: refused", sheet.list(3, -1), -14);
        check.due("30: it stays", sheet.get(3, 39), 0);
        check.due("30: shorter", sheet.list(3, 2), 1);
        check.due("30: get(3, 2)", sheet.get(3, 2), NO);
    }

    private static void set() {
        ReactiveSheet sheet = rows(3);
        check.due("31: set(-1, 0, 1)", sheet.set(-1, 0, 1), -1);
        check.due("31: set(4, 0, 1)", sheet.set(4, 0, 1), -1);
        check.due("31: set(1, 0, 1)", sheet.set(1, 0, 1), -11);
        check.due("31: set(1, -1, 1)", sheet.set(1, -1, 1), -11);
        check.due("31: set(0, -1, 1)", sheet.set(0, -1, 1), -13);
        check.due("31: set(0, 3, 1)", sheet.set(0, 3, 1), -13);
        check.due("31: set(0, MAX, 1)", sheet.set(0, MAX, 1), -13);
        check.due("31: set(0, 2, 9)", sheet.set(0, 2, 9), 1);
        check.due("31: the row", row(sheet, 0), "100 101 9");
    }

    private static void get() {
        ReactiveSheet sheet = rows(3, 1);
        check.due("32: get(-1, 0)", sheet.get(-1, 0), NO);
        check.due("32: get(4, 0)", sheet.get(4, 0), NO);
        check.due("32: get(2, 0)", sheet.get(2, 0), NO);
        check.due("32: get(0, -1)", sheet.get(0, -1), NO);
        check.due("32: get(0, 3)", sheet.get(0, 3), NO);
        check.due("32: get(0, MIN)", sheet.get(0, MIN), NO);
        check.due("32: get(0, 2)", sheet.get(0, 2), 102);
        check.due("32: get(1, 0)", sheet.get(1, 0), 200);
    }

    private static void move() {
        ReactiveSheet sheet = rows(4, 3);
        check.due("33: move(-1, 0, 1, 0, 1)", sheet.move(-1, 0, 1, 0, 1), -1);
        check.due("33: move(0, 0, 4, 0, 1)", sheet.move(0, 0, 4, 0, 1), -1);
        check.due("33: move(2, 0, 1, 0, 1)", sheet.move(2, 0, 1, 0, 1), -11);
        check.due("33: move(0, 0, 2, 0, 1)", sheet.move(0, 0, 2, 0, 1), -11);
        check.due("33: NOTHING ahead of BEYOND", sheet.move(0, -1, 2, 0, 1), -11);
        check.due("33: n -1", sheet.move(0, 0, 1, 0, -1), -13);
        check.due("33: i -1", sheet.move(0, -1, 1, 0, 1), -13);
        check.due("33: j -1", sheet.move(0, 0, 1, -1, 1), -13);
        check.due("33: beyond the one's end", sheet.move(1, 1, 0, 0, 3), -13);
        check.due("33: beyond the other's end", sheet.move(0, 0, 1, 1, 3), -13);
        check.due("33: i MAX", sheet.move(0, MAX, 1, 0, 1), -13);
        check.due("33: n MAX", sheet.move(0, 1, 1, 0, MAX), -13);
        check.due("33: i 5, n 0", sheet.move(0, 5, 1, 0, 0), -13);
        check.due("33: n 0 at the ends", sheet.move(0, 4, 1, 3, 0), 0);
        check.due("33: nothing was done", row(sheet, 1), "200 201 202");
        check.due("33: move(0, 1, 1, 0, 3)", sheet.move(0, 1, 1, 0, 3), 3);
        check.due("33: the other one", row(sheet, 1), "101 102 103");
        check.due("33: the one", row(sheet, 0), "100 101 102 103");
        check.due("33: move(1, 2, 0, 0, 1)", sheet.move(1, 2, 0, 0, 1), 1);
        check.due("33: the other one", row(sheet, 0), "103 101 102 103");
    }

    private static void moveWithin() {
        ReactiveSheet sheet = rows(6);
        check.due("33: to the right", sheet.move(0, 0, 0, 2, 4), 4);
        check.due("33: as they were before", row(sheet, 0), "100 101 100 101 102 103");
        check.due("33: to the left", sheet.move(0, 2, 0, 1, 4), 4);
        check.due("33: as they were before", row(sheet, 0), "100 100 101 102 103 103");
        check.due("33: to the same place", sheet.move(0, 0, 0, 0, 6), 6);
        check.due("33: the same", row(sheet, 0), "100 100 101 102 103 103");
    }

    private static void fill() {
        ReactiveSheet sheet = rows(5);
        sheet.input(0, 7);
        Check.define(sheet, 1, "1/0");
        Check.define(sheet, 2, "#0+1");
        sheet.input(31, NO);
        check.due("34: fill(-1, 0, 0, 1)", sheet.fill(-1, 0, 0, 1), -1);
        check.due("34: fill(4, 0, 0, 1)", sheet.fill(4, 0, 0, 1), -1);
        check.due("34: fill(0, 0, -1, 1)", sheet.fill(0, 0, -1, 1), -1);
        check.due("34: fill(0, 0, 32, 1)", sheet.fill(0, 0, 32, 1), -1);
        check.due("34: NONE ahead of BAD", sheet.fill(4, 0, 0, -1), -1);
        check.due("34: n -1", sheet.fill(0, 0, 0, -1), -2);
        check.due("34: not so many cells", sheet.fill(0, 0, 31, 2), -2);
        check.due("34: n 33", sheet.fill(0, 0, 0, 33), -2);
        check.due("34: n MAX", sheet.fill(0, 0, 1, MAX), -2);
        check.due("34: BAD ahead of NOTHING", sheet.fill(1, 0, 0, -1), -2);
        check.due("34: NOTHING", sheet.fill(1, 0, 0, 1), -11);
        check.due("34: NOTHING ahead of BEYOND", sheet.fill(1, -1, 0, 1), -11);
        check.due("34: fill(0, 1, 0, 4)", sheet.fill(0, 1, 0, 4), 4);
        check.due("34: get(0, 0)", sheet.get(0, 0), 100);
        check.due("34: get(0, 1)", sheet.get(0, 1), 7);
        check.due("34: an error", sheet.get(0, 2), NO + 2);
        check.due("34: get(0, 3)", sheet.get(0, 3), 8);
        check.due("34: an absent one", sheet.get(0, 4), NO + 3);
        check.due("34: beyond", sheet.fill(0, 3, 0, 3), -13);
        check.due("34: those that had a place", sheet.get(0, 3), 7);
        check.due("34: those that had a place", sheet.get(0, 4), NO + 2);
        check.due("34: i -1", sheet.fill(0, -1, 0, 3), -13);
        check.due("34: none of them", sheet.get(0, 0), 100);
        check.due("34: i 5", sheet.fill(0, 5, 0, 1), -13);
        check.due("34: i MAX", sheet.fill(0, MAX, 0, 2), -13);
        check.due("34: n 0", sheet.fill(0, 5, 0, 0), 0);
        check.due("34: the last cell", sheet.fill(0, 0, 31, 1), 1);
        check.due("34: it is MIN", sheet.get(0, 0), NO);
        check.due("34: no wave", sheet.told(5), 4);
        sheet.begin();
        sheet.input(0, 1);
        check.due("34: within a batch", sheet.fill(0, 0, 0, 1), 1);
        check.due("34: as ahead of it", sheet.get(0, 0), 7);
    }

    private static void pour() {
        ReactiveSheet sheet = rows(5);
        Check.define(sheet, 8, "s0-2");
        check.due("35: pour(0, 1, 0, 3)", sheet.pour(0, 1, 0, 3), 1);
        check.due("35: value(0)", sheet.value(0), 101);
        check.due("35: value(2)", sheet.value(2), 103);
        check.due("35: value(8)", sheet.value(8), 306);
        check.due("35: one wave", sheet.told(5), 2);
        check.due("35: three were told", sheet.past(0, 0), 3);
        check.due("35: four were changed", sheet.past(0, 2), 4);
        check.due("35: the same again", sheet.pour(0, 1, 0, 3), 0);
        check.due("35: over a formula", sheet.pour(0, 0, 8, 1), 0);
        check.due("35: it is an input", sheet.of(8, 0), 1);
        check.due("35: n 0", sheet.pour(0, 0, 3, 0), 0);
        check.due("35: is a wave", sheet.told(5), 5);
        check.due("35: that tells none", sheet.past(0, 0), 0);
        check.due("35: n 0 needs no place", sheet.pour(0, 5, 3, 0), 0);
        check.due("35: to the last cell", sheet.pour(0, 4, 31, 1), 0);
        check.due("35: value(31)", sheet.value(31), 104);
        sheet.set(0, 0, NO);
        check.due("35: MIN is a number", sheet.pour(0, 0, 4, 1), 0);
        check.due("35: of(4, 1)", sheet.of(4, 1), 0);
    }

    private static void pourRefused() {
        ReactiveSheet sheet = rows(3);
        check.due("35: pour(-1, 0, 0, 1)", sheet.pour(-1, 0, 0, 1), -1);
        check.due("35: pour(4, 0, 0, 1)", sheet.pour(4, 0, 0, 1), -1);
        check.due("35: pour(0, 0, -1, 1)", sheet.pour(0, 0, -1, 1), -1);
        check.due("35: pour(0, 0, 32, 0)", sheet.pour(0, 0, 32, 0), -1);
        check.due("35: n -1", sheet.pour(0, 0, 0, -1), -2);
        check.due("35: not so many cells", sheet.pour(0, 0, 30, 3), -2);
        check.due("35: NOTHING", sheet.pour(1, 0, 0, 1), -11);
        check.due("35: BAD ahead of NOTHING", sheet.pour(1, 0, 30, 3), -2);
        check.due("35: beyond the end", sheet.pour(0, 1, 0, 3), -13);
        check.due("35: i -1", sheet.pour(0, -1, 0, 1), -13);
        check.due("35: i MAX", sheet.pour(0, MAX, 0, 1), -13);
        check.due("35: nothing is told then", sheet.of(0, 0), 0);
        check.due("35: no wave", sheet.told(5), 0);
        sheet.begin();
        check.due("35: BEYOND ahead of STATE", sheet.pour(0, 1, 0, 3), -13);
        check.due("35: STATE", sheet.pour(0, 0, 0, 1), -3);
        check.due("35: the batch tells none", sheet.told(9), 0);
        sheet.end();
        sheet.list(0, 1);
        sheet.set(0, 0, 1);
        Check.define(sheet, 1, "@#0");
        check.due("35: a ring", sheet.pour(0, 0, 0, 1), -7);
        check.due("35: nothing is done", sheet.of(0, 0), 0);
        check.due("35: nothing is left of it", sheet.told(9), 0);
        check.due("35: no wave", sheet.told(5), 2);
    }

    private static void image() {
        ReactiveSheet sheet = new ReactiveSheet();
        check.due("36: none but absent ones", sheet.image(), 0);
        sheet.input(3, 1);
        Check.define(sheet, 4, "#3");
        check.due("36: two", sheet.image(), 2);
        sheet.begin();
        check.due("36: within a batch", sheet.image(), -3);
        sheet.end();
        check.due("36: no wave by it", sheet.told(5), 3);
    }

    private static void undo() {
        ReactiveSheet sheet = new ReactiveSheet();
        check.due("37: there is none", sheet.undo(), -3);
        sheet.input(0, 2);
        Check.define(sheet, 1, "#0*10");
        sheet.watch(1, 0, 0);
        sheet.watch(0, 0, 0);
        sheet.quit(1);
        sheet.input(0, 3);
        check.due("36: image()", sheet.image(), 2);
        sheet.watch(0, 0, 0);
        sheet.quit(0);
        Check.define(sheet, 1, "#5+7");
        sheet.input(0, 9);
        sheet.input(5, 9);
        Check.type(sheet, "#0+");
        sheet.spell(1);
        sheet.list(0, 3);
        sheet.begin();
        check.due("37: within a batch", sheet.undo(), -3);
        sheet.cancel();
        check.due("37: undo()", sheet.undo(), 2);
        check.due("37: value(0)", sheet.value(0), 3);
        check.due("37: value(1)", sheet.value(1), 30);
        check.due("37: of(5, 0)", sheet.of(5, 0), 0);
        check.due("37: reads(1)", Check.reads(sheet, 1), "0");
        check.due("37: of(1, 3)", sheet.of(1, 3), 2);
        check.due("37: of(1, 6)", sheet.of(1, 6), 1);
        check.due("37: of(1, 7)", sheet.of(1, 7), 1);
        check.due("37: of(1, 8)", sheet.of(1, 8), 0);
        check.due("37: told(2)", sheet.told(2), 1);
        check.due("37: told(3)", sheet.told(3), 2);
        check.due("37: told(6)", sheet.told(6), 2);
        check.due("37: told(7)", sheet.told(7), 1);
        check.due("37: logged(0, 1)", sheet.logged(0, 1), 30);
        check.due("37: the tape stays", sheet.told(10), 3);
        check.due("37: the paper stays", Check.paper(sheet), "#5+7");
        check.due("37: the lists stay", sheet.get(0, 2), 0);
        check.due("37: the formula is that of then", Check.spelling(sheet, 1), "#0*10");
        check.due("37: who had quit then has quit", sheet.quit(1), 0);
        check.due("37: who quit since tells again", sheet.input(0, 4), 1);
        check.due("37: told(7)", sheet.told(7), 2);
        check.due("37: undo() again", sheet.undo(), 2);
        check.due("37: value(1)", sheet.value(1), 30);
        check.due("37: told(7)", sheet.told(7), 1);
        check.due("37: a number that is free again", sheet.watch(0, 0, 0), 2);
    }

    /** How many waves there were, and what they did, stays. */
    private static void undoWaves() {
        ReactiveSheet sheet = new ReactiveSheet();
        sheet.input(0, 2);
        sheet.image();
        sheet.begin();
        sheet.input(0, 5);
        sheet.input(1, 5);
        sheet.end();
        sheet.undo();
        check.due("37: told(5)", sheet.told(5), 2);
        check.due("37: past(0, 0)", sheet.past(0, 0), 2);
        check.due("37: past(1, 0)", sheet.past(1, 0), 1);
        check.due("37: of the latest wave as of the image's", sheet.of(0, 6), 1);
        check.due("37: told(3)", sheet.told(3), 1);
        check.due("37: the next wave", sheet.input(0, 5), 0);
        check.due("37: is a change", sheet.told(3), 1);
        check.due("37: told(5)", sheet.told(5), 3);
    }

    /** Also what had gone out of the log since is back. */
    private static void undoLog() {
        ReactiveSheet sheet = new ReactiveSheet();
        sheet.watch(0, 0, 0);
        for (int i = 0; i < 65; i++) {
            sheet.input(0, i);
        }
        sheet.drop(0);
        sheet.input(0, 70);
        sheet.image();
        sheet.watch(1, 0, 0);
        for (int i = 0; i < 100; i++) {
            sheet.input(1, i);
        }
        check.due("37: the log is another", sheet.log(0, 0), 1);
        check.due("37: undo()", sheet.undo(), 1);
        check.due("37: told(7)", sheet.told(7), 60);
        for (int i = 0; i < 60; i++) {
            check.due("37: log(" + i + ", 0)", sheet.log(i, 0), 0);
            check.due("37: log(" + i + ", 1)", sheet.log(i, 1), i == 59 ? 3 : 0);
            check.due("37: log(" + i + ", 2)", sheet.log(i, 2), i == 58 ? 3 : 0);
            check.due("37: logged(" + i + ", 0)", sheet.logged(i, 0), i == 59 ? NO : i + 6);
            check.due("37: logged(" + i + ", 1)", sheet.logged(i, 1), i == 59 ? 70 : i == 58 ? NO : i + 7);
        }
    }

    private static void undoHeights() {
        ReactiveSheet sheet = new ReactiveSheet();
        sheet.input(0, 2);
        Check.define(sheet, 1, "#0");
        Check.define(sheet, 2, "#1");
        Check.define(sheet, 3, "#1+#2");
        sheet.input(0, 1);
        sheet.image();
        Check.define(sheet, 3, "7");
        sheet.drop(1);
        sheet.drop(2);
        sheet.input(9, 9);
        check.due("37: nothing ran", sheet.told(2), 0);
        check.due("37: undo()", sheet.undo(), 4);
        check.due("37: told(2)", sheet.told(2), 3);
        check.due("37: told(3)", sheet.told(3), 4);
        check.due("37: told(4)", sheet.told(4), 6);
        check.due("37: told(12)", sheet.told(12), 3);
        check.due("37: of(2, 2)", sheet.of(2, 2), 2);
        check.due("37: readers(1)", sheet.readers(1), 0b1100);
        check.due("37: reads(3)", Check.reads(sheet, 3), "1 2");
        check.due("37: of(3, 8)", sheet.of(3, 8), 1);
        check.due("37: why(3, 1)", sheet.why(3, 1), 0);
        check.due("37: order(3)", sheet.order(3), 3);
        check.due("37: the next wave", sheet.input(0, 5), 3);
        check.due("37: value(3)", sheet.value(3), 10);
    }
}
