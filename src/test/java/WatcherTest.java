/** Promises 24 to 29: watchers, the log, and what is told of waves. */
public final class WatcherTest {
    private static final long MAX = Long.MAX_VALUE;
    private static final long NO = ReactiveSheet.NO;
    private static final Check check = new Check("WatcherTest");

    public static void main(String[] args) {
        watch();
        rise();
        crosses();
        breaks();
        any();
        quit();
        log();
        logOfSixty();
        watchersInABatch();
        told();
        past();
        pastOfTwenty();
        check.end();
    }

    private static void watch() {
        ReactiveSheet sheet = new ReactiveSheet();
        check.due("24: watch(-1, 0, 0)", sheet.watch(-1, 0, 0), -1);
        check.due("24: watch(32, 0, 0)", sheet.watch(32, 0, 0), -1);
        check.due("24: watch(0, -1, 0)", sheet.watch(0, -1, 0), -1);
        check.due("24: watch(0, 4, 0)", sheet.watch(0, 4, 0), -1);
        for (int i = 0; i < 8; i++) {
            check.due("24: watcher " + i, sheet.watch(31 - i, i % 4, MAX), i);
        }
        check.due("24: FULL", sheet.watch(0, 0, 0), -4);
        check.due("24: NONE ahead of FULL", sheet.watch(0, 4, 0), -1);
        check.due("24: told(6)", sheet.told(6), 8);
    }

    private static int tells(ReactiveSheet sheet, long value) {
        sheet.input(0, value);
        return sheet.past(0, 3);
    }

    private static int tellsByDrop(ReactiveSheet sheet) {
        sheet.drop(0);
        return sheet.past(0, 3);
    }

    private static void rise() {
        ReactiveSheet sheet = new ReactiveSheet();
        sheet.watch(0, 1, 0);
        check.due("24: from an error to a number is no rise", tells(sheet, 5), 0);
        check.due("24: 5 to 6", tells(sheet, 6), 1);
        check.due("24: 6 to 6", tells(sheet, 6), 0);
        check.due("24: 6 to 5", tells(sheet, 5), 0);
        check.due("24: to MAX", tells(sheet, MAX), 1);
        check.due("24: to MIN", tells(sheet, NO), 0);
        check.due("24: from MIN to MAX", tells(sheet, MAX), 1);
        check.due("24: to an error", tellsByDrop(sheet), 0);
    }

    private static void crosses() {
        ReactiveSheet sheet = new ReactiveSheet();
        sheet.watch(0, 2, 10);
        check.due("24: from an error to a number", tells(sheet, 5), 0);
        check.due("24: 5 to 9", tells(sheet, 9), 0);
        check.due("24: 9 to 10", tells(sheet, 10), 1);
        check.due("24: 10 to 11", tells(sheet, 11), 0);
        check.due("24: 11 to 10", tells(sheet, 10), 0);
        check.due("24: 10 to -3", tells(sheet, -3), 1);
        check.due("24: -3 to 99", tells(sheet, 99), 1);
        check.due("24: to an error", tellsByDrop(sheet), 0);
        check.due("24: the log", sheet.told(7), 3);
    }

    private static void breaks() {
        ReactiveSheet sheet = new ReactiveSheet();
        sheet.watch(0, 3, 10);
        check.due("24: from an error to a number", tells(sheet, 5), 1);
        check.due("24: 5 to 9", tells(sheet, 9), 0);
        check.due("24: to an error", tellsByDrop(sheet), 1);
        check.due("24: an error to the same", tellsByDrop(sheet), 0);
        Check.define(sheet, 0, "1/0");
        check.due("24: an error to another", sheet.past(0, 3), 0);
        check.due("24: that is a change", sheet.past(0, 2), 1);
    }

    private static void any() {
        ReactiveSheet sheet = new ReactiveSheet();
        sheet.watch(0, 0, 0);
        check.due("24: from an error to a number", tells(sheet, 5), 1);
        check.due("24: the same", tells(sheet, 5), 0);
        check.due("24: another", tells(sheet, 4), 1);
        Check.define(sheet, 0, "2+2");
        check.due("24: a formula with the same value", sheet.past(0, 3), 0);
        Check.define(sheet, 0, "1/0");
        check.due("24: an error", sheet.past(0, 3), 1);
        Check.define(sheet, 0, "#9");
        check.due("24: an error to another", sheet.past(0, 3), 1);
        check.due("24: absent is that error too", tellsByDrop(sheet), 0);
    }

    private static void quit() {
        ReactiveSheet sheet = new ReactiveSheet();
        check.due("25: quit(0)", sheet.quit(0), -1);
        sheet.watch(0, 0, 0);
        sheet.watch(0, 0, 0);
        check.due("25: quit(-1)", sheet.quit(-1), -1);
        check.due("25: quit(2)", sheet.quit(2), -1);
        check.due("25: quit(MAX)", sheet.quit(Integer.MAX_VALUE), -1);
        check.due("25: quit(0)", sheet.quit(0), 1);
        check.due("25: quit(0) again", sheet.quit(0), 0);
        check.due("25: only the other one tells", tells(sheet, 1), 1);
        check.due("25: log(0, 0)", sheet.log(0, 0), 1);
        check.due("25: it joined", sheet.told(6), 2);
        check.due("25: the next one's number", sheet.watch(0, 0, 0), 2);
    }

    private static void log() {
        ReactiveSheet sheet = new ReactiveSheet();
        sheet.watch(1, 0, 0);
        sheet.watch(0, 0, 0);
        sheet.watch(1, 3, 0);
        check.due("26: log(0, 0)", sheet.log(0, 0), -1);
        check.due("27: logged(0, 0)", sheet.logged(0, 0), NO);
        sheet.input(0, 7);
        Check.define(sheet, 1, "10/#0");
        sheet.input(0, 0);
        int[][] due = {{1, 3, 0}, {0, 3, 0}, {2, 3, 0}, {0, 0, 2}, {1, 0, 0}, {2, 0, 2}};
        long[][] numbers = {{NO, 7}, {NO, 1}, {NO, 1}, {1, NO}, {7, 0}, {1, NO}};
        check.due("26: told(7)", sheet.told(7), due.length);
        for (int i = 0; i < due.length; i++) {
            for (int what = 0; what < 3; what++) {
                check.due("26: log(" + i + ", " + what + ")", sheet.log(i, what), due[i][what]);
            }
            check.due("27: logged(" + i + ", 0)", sheet.logged(i, 0), numbers[i][0]);
            check.due("27: logged(" + i + ", 1)", sheet.logged(i, 1), numbers[i][1]);
        }
        check.due("26: log(6, 0)", sheet.log(6, 0), -1);
        check.due("26: log(-1, 0)", sheet.log(-1, 0), -1);
        check.due("26: log(0, -1)", sheet.log(0, -1), -1);
        check.due("26: log(0, 3)", sheet.log(0, 3), -1);
        check.due("27: logged(6, 0)", sheet.logged(6, 0), NO);
        check.due("27: logged(-1, 0)", sheet.logged(-1, 0), NO);
        check.due("27: logged(0, -1)", sheet.logged(0, -1), NO);
        check.due("27: logged(1, 2)", sheet.logged(1, 2), NO);
    }

    private static void logOfSixty() {
        ReactiveSheet sheet = new ReactiveSheet();
        sheet.watch(0, 0, 0);
        sheet.watch(0, 1, 0);
        for (int i = 1; i <= 30; i++) {
            sheet.input(0, i);
        }
        check.due("26: one of the first wave, two of each other", sheet.told(7), 59);
        check.due("27: logged(0, 1)", sheet.logged(0, 1), 1);
        sheet.input(0, 31);
        check.due("26: sixty", sheet.told(7), 60);
        check.due("26: the oldest is gone", sheet.logged(0, 0), 1);
        check.due("27: logged(0, 1)", sheet.logged(0, 1), 2);
        check.due("27: logged(59, 1)", sheet.logged(59, 1), 31);
        check.due("26: log(59, 0)", sheet.log(59, 0), 1);
        check.due("26: log(60, 0)", sheet.log(60, 0), -1);
        for (int i = 32; i <= 132; i++) {
            sheet.input(0, i);
        }
        check.due("26: sixty", sheet.told(7), 60);
        check.due("27: logged(0, 1)", sheet.logged(0, 1), 103);
        check.due("27: logged(59, 0)", sheet.logged(59, 0), 131);
    }

    /** Who joins or quits does so at once; who is one at the end of the batch is asked. */
    private static void watchersInABatch() {
        ReactiveSheet sheet = new ReactiveSheet();
        sheet.input(0, 1);
        sheet.watch(0, 0, 0);
        sheet.begin();
        sheet.input(0, 5);
        sheet.input(0, 9);
        check.due("24: within a batch", sheet.watch(0, 1, 0), 1);
        check.due("25: within a batch", sheet.quit(0), 1);
        check.due("26: nothing is told yet", sheet.told(7), 0);
        sheet.end();
        check.due("26: once", sheet.told(7), 1);
        check.due("26: by the other", sheet.log(0, 0), 1);
        check.due("27: was", sheet.logged(0, 0), 1);
        check.due("27: is", sheet.logged(0, 1), 9);
    }

    private static void told() {
        ReactiveSheet sheet = new ReactiveSheet();
        sheet.input(0, 1);
        sheet.input(1, 2);
        Check.define(sheet, 2, "#0+#1");
        Check.define(sheet, 3, "#2>0");
        Check.define(sheet, 4, "#3");
        sheet.watch(2, 0, 0);
        sheet.input(0, 5);
        sheet.spell(2);
        sheet.begin();
        sheet.input(9, 1);
        Check.type(sheet, "#1+");
        int[] due = {2, 3, 2, 2, 5, 6, 1, 1, 1, 1, 3, 5, 3, -1};
        for (int what = 0; what < due.length; what++) {
            check.due("28: told(" + what + ")", sheet.told(what), due[what]);
        }
        check.due("28: told(-1)", sheet.told(-1), -1);
        check.due("28: told(MAX)", sheet.told(Integer.MAX_VALUE), -1);
        sheet.clear();
        check.due("28: end()", sheet.end(), 0);
        check.due("28: told(5)", sheet.told(5), 7);
        check.due("28: a ring", Check.define(sheet, 2, "#4"), -7);
        check.due("28: a ring doesn't count", sheet.told(5), 7);
        check.due("28: 2 becomes an input", sheet.input(2, 6), 1);
        check.due("28: its runs are gone", sheet.told(4), 4);
        check.due("28: the greatest height", sheet.told(12), 2);
        check.due("28: the tape", sheet.told(10), 0);
        sheet.quit(0);
        check.due("28: who quit has joined all the same", sheet.told(6), 1);
    }

    private static void past() {
        ReactiveSheet sheet = new ReactiveSheet();
        check.due("29: past(0, 0)", sheet.past(0, 0), -1);
        sheet.input(0, 1);
        Check.define(sheet, 1, "#0*2");
        sheet.watch(1, 0, 0);
        sheet.watch(0, 1, 0);
        sheet.begin();
        sheet.input(0, 4);
        sheet.input(7, 4);
        sheet.end();
        int[][] due = {{2, 1, 3, 2}, {1, 1, 1, 0}, {1, 0, 1, 0}};
        for (int i = 0; i < due.length; i++) {
            for (int what = 0; what < 4; what++) {
                check.due("29: past(" + i + ", " + what + ")", sheet.past(i, what), due[i][what]);
            }
        }
        check.due("29: past(3, 0)", sheet.past(3, 0), -1);
        check.due("29: past(-1, 0)", sheet.past(-1, 0), -1);
        check.due("29: past(0, -1)", sheet.past(0, -1), -1);
        check.due("29: past(0, 4)", sheet.past(0, 4), -1);
        Check.define(sheet, 0, "#1");
        check.due("29: a ring doesn't count", sheet.past(0, 0), 2);
    }

    private static void pastOfTwenty() {
        ReactiveSheet sheet = new ReactiveSheet();
        for (int i = 0; i < 45; i++) {
            sheet.begin();
            for (int cell = 0; cell < i % 7; cell++) {
                sheet.input(cell, i);
            }
            sheet.end();
            check.due("29: the oldest of " + (i + 1), sheet.past(Math.min(i, 19), 0), Math.max(0, i - 19) % 7);
            check.due("29: the latest of " + (i + 1), sheet.past(0, 0), i % 7);
            check.due("29: one more than are kept", sheet.past(i < 19 ? i + 1 : 20, 0), -1);
        }
        check.due("29: all count", sheet.told(5), 45);
    }
}
