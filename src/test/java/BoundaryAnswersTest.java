import java.util.function.Consumer;
import java.util.function.ToLongFunction;

/**
 * "What is answered so changes nothing (but LISTS by BEYOND, as told); what is asked changes nothing but THE PAPER, LISTS
 * that are FILLED": a sheet on which a call was refused, or asked, and its twin, which never heard of it, look alike.
 */
public final class BoundaryAnswersTest {
    private static final int IMAX = Integer.MAX_VALUE;
    private static final int IMIN = Integer.MIN_VALUE;
    private static final long NO = ReactiveSheet.NO;
    private static final Check check = new Check("BoundaryAnswersTest");

    private static Consumer<ReactiveSheet> story;
    private static String name;
    private static String twin;

    public static void main(String[] args) {
        stories();
        begin("a new one", sheet -> { });
        noneOnAny();
        nothingThere();
        begin("one with all", BoundaryAnswersTest::withAll);
        noneOnAny();
        withAllRefused();
        rings();
        asked();
        begin("one with all but a tape", sheet -> {
            withAll(sheet);
            sheet.clear();
        });
        textsRefused();
        same("a ring by a text", sheet -> Check.define(sheet, 5, "#2"), -7);
        begin("one within a batch, with no tape", sheet -> {
            withinBatch(sheet);
            sheet.clear();
        });
        textsRefused();
        begin("one within a batch", BoundaryAnswersTest::withinBatch);
        noneOnAny();
        withinBatchRefused();
        asked();
        begin("a full one", BoundaryAnswersTest::full);
        noneOnAny();
        fullRefused();
        lookSeesAll();
        check.end();
    }

    private static void begin(String what, Consumer<ReactiveSheet> told) {
        name = what;
        story = told;
        ReactiveSheet sheet = new ReactiveSheet();
        story.accept(sheet);
        twin = Look.at(sheet);
    }

    /** A call that must leave the sheet as it is. */
    private static void same(String call, ToLongFunction<ReactiveSheet> one, long due) {
        ReactiveSheet sheet = new ReactiveSheet();
        story.accept(sheet);
        check.due(name + ": " + call, one.applyAsLong(sheet), due);
        check.due(name + ", behind " + call + ": what is otherwise", Look.otherwise(Look.at(sheet), twin), "");
    }

    // ---- stories

    /** 0 leads 1 to another cell, 2 goes over, 3 is an error; an image, a log, lists, a paper and a tape are there. */
    private static void withAll(ReactiveSheet sheet) {
        sheet.input(0, 5);
        Check.define(sheet, 1, "@#0");
        Check.define(sheet, 2, "#1+1");
        Check.define(sheet, 3, "1/#9");
        sheet.input(5, 7);
        sheet.watch(2, 0, 0);
        sheet.watch(0, 1, 0);
        sheet.image();
        sheet.quit(1);
        sheet.input(5, 8);
        sheet.list(0, 2);
        sheet.set(0, 0, 1);
        sheet.set(0, 1, 2);
        sheet.list(1, 0);
        sheet.spell(2);
        Check.type(sheet, "#0+4");
    }

    private static void withinBatch(ReactiveSheet sheet) {
        withAll(sheet);
        sheet.begin();
        sheet.input(0, 31);
        sheet.input(31, 6);
        sheet.drop(3);
        sheet.copy(2, 4);
    }

    private static void full(ReactiveSheet sheet) {
        for (int i = 0; i < 8; i++) {
            sheet.watch(0, 0, 0);
        }
        for (int i = 1; i <= 9; i++) {
            sheet.input(0, i);
        }
        Check.type(sheet, "1+".repeat(60));
    }

    /** The stories themselves are as they are meant to be. */
    private static void stories() {
        ReactiveSheet sheet = new ReactiveSheet();
        withinBatch(sheet);
        check.due("story: told(8)", sheet.told(8), 1);
        check.due("story: told(9)", sheet.told(9), 4);
        check.due("story: told(10)", sheet.told(10), 4);
        check.due("story: told(7)", sheet.told(7), 1);
        check.due("story: value(2)", sheet.value(2), 9);
        sheet = new ReactiveSheet();
        full(sheet);
        check.due("story: told(7)", sheet.told(7), 60);
        check.due("story: told(10)", sheet.told(10), 120);
    }

    // ---- refused calls

    /** No such number: whatever the sheet holds. */
    private static void noneOnAny() {
        for (int cell : new int[] {-1, 32, IMAX, IMIN}) {
            same("input(" + cell + ", 1)", sheet -> sheet.input(cell, 1), -1);
            same("define(" + cell + ")", sheet -> sheet.define(cell), -1);
            same("drop(" + cell + ")", sheet -> sheet.drop(cell), -1);
            same("copy(" + cell + ", 0)", sheet -> sheet.copy(cell, 0), -1);
            same("copy(1, " + cell + ")", sheet -> sheet.copy(1, cell), -1);
            same("freeze(" + cell + ")", sheet -> sheet.freeze(cell), -1);
            same("feed of none", sheet -> sheet.feed(cell < 0 ? cell : IMAX), -2);
            same("spell(" + cell + ")", sheet -> sheet.spell(cell), -1);
            same("would(" + cell + ", 1)", sheet -> sheet.would(cell, 1), -1);
            same("whatIf(" + cell + ", 1, 0)", sheet -> sheet.whatIf(cell, 1, 0), NO);
            same("seek(" + cell + ", 1, 3, 0, 0)", sheet -> sheet.seek(cell, 1, 3, 0, 0), NO);
            same("watch(" + cell + ", 0, 0)", sheet -> sheet.watch(cell, 0, 0), -1);
            same("watch(0, " + cell + ", 0)", sheet -> sheet.watch(0, cell, 0), -1);
            same("quit(" + cell + ")", sheet -> sheet.quit(cell), -1);
            same("list(" + cell + ", 1)", sheet -> sheet.list(cell, 1), -1);
            same("set(" + cell + ", 0, 1)", sheet -> sheet.set(cell, 0, 1), -1);
            same("move(" + cell + ", 0, 0, 0, 1)", sheet -> sheet.move(cell, 0, 0, 0, 1), -1);
            same("move(0, 0, " + cell + ", 0, 1)", sheet -> sheet.move(0, 0, cell, 0, 1), -1);
            same("fill(" + cell + ", 0, 0, 1)", sheet -> sheet.fill(cell, 0, 0, 1), -1);
            same("fill(0, 0, " + cell + ", 1)", sheet -> sheet.fill(0, 0, cell, 1), -1);
            same("pour(" + cell + ", 0, 0, 1)", sheet -> sheet.pour(cell, 0, 0, 1), -1);
            same("pour(0, 0, " + cell + ", 1)", sheet -> sheet.pour(0, 0, cell, 1), -1);
        }
        same("list(0, 41)", sheet -> sheet.list(0, 41), -2);
        same("list(0, -1)", sheet -> sheet.list(0, -1), -14);
        same("fill(0, 0, 0, -1)", sheet -> sheet.fill(0, 0, 0, -1), -2);
        same("fill(0, 0, 31, 2)", sheet -> sheet.fill(0, 0, 31, 2), -2);
        same("pour(0, 0, 0, -1)", sheet -> sheet.pour(0, 0, 0, -1), -2);
        same("pour(0, 0, 31, 2)", sheet -> sheet.pour(0, 0, 31, 2), -2);
        same("set(3, 0, 1)", sheet -> sheet.set(3, 0, 1), -11);
        same("move(3, 0, 0, 0, 0)", sheet -> sheet.move(3, 0, 0, 0, 0), -11);
        same("fill(3, 0, 0, 1)", sheet -> sheet.fill(3, 0, 0, 1), -11);
        same("pour(3, 0, 0, 1)", sheet -> sheet.pour(3, 0, 0, 1), -11);
        same("copy(31, 1)", sheet -> sheet.copy(31, 1), -3);
        same("freeze(31)", sheet -> sheet.freeze(31), -3);
        same("spell(31)", sheet -> sheet.spell(31), -3);
    }

    private static void nothingThere() {
        same("define(0)", sheet -> sheet.define(0), -100);
        same("end()", ReactiveSheet::end, -3);
        same("cancel()", ReactiveSheet::cancel, -3);
        same("undo()", ReactiveSheet::undo, -3);
        same("clear()", ReactiveSheet::clear, 0);
        same("quit(0)", sheet -> sheet.quit(0), -1);
        same("seek(0, 1, 13, 0, 0)", sheet -> sheet.seek(0, 1, 13, 0, 0), NO);
    }

    private static void withAllRefused() {
        same("end()", ReactiveSheet::end, -3);
        same("cancel()", ReactiveSheet::cancel, -3);
        same("copy(0, 1)", sheet -> sheet.copy(0, 1), -3);
        same("copy(2, 0)", sheet -> sheet.copy(2, 0), -2);
        same("copy(3, 31)", sheet -> sheet.copy(3, 31), -2);
        same("freeze(0)", sheet -> sheet.freeze(0), -3);
        same("freeze(3)", sheet -> sheet.freeze(3), -3);
        same("spell(0)", sheet -> sheet.spell(0), -3);
        same("quit(1)", sheet -> sheet.quit(1), 0);
        same("quit(2)", sheet -> sheet.quit(2), -1);
        same("set(0, 2, 9)", sheet -> sheet.set(0, 2, 9), -13);
        same("set(1, 0, 9)", sheet -> sheet.set(1, 0, 9), -13);
        same("move(0, 1, 0, 0, 2)", sheet -> sheet.move(0, 1, 0, 0, 2), -13);
        same("move(0, 0, 1, 0, 1)", sheet -> sheet.move(0, 0, 1, 0, 1), -13);
        same("fill(0, 2, 0, 1)", sheet -> sheet.fill(0, 2, 0, 1), -13);
        same("fill(0, -1, 0, 2)", sheet -> sheet.fill(0, -1, 0, 2), -13);
        same("pour(0, 1, 0, 2)", sheet -> sheet.pour(0, 1, 0, 2), -13);
        same("pour(0, -1, 0, 2)", sheet -> sheet.pour(0, -1, 0, 2), -13);
        same("begin() and cancel()", sheet -> sheet.begin() + sheet.cancel(), 1);
        same("what is told, and cancelled", sheet -> sheet.begin() + sheet.input(0, 1) + sheet.drop(5) + sheet.cancel(), 3);
    }

    /** A text that is read is gone from the tape, and that is all. */
    private static void textsRefused() {
        same("no text", sheet -> sheet.define(1), -100);
        same("a fault", sheet -> Check.define(sheet, 1, "x"), -100);
        same("a fault of a number", sheet -> Check.define(sheet, 0, "1+#32"), -103);
        same("a text that ends too early", sheet -> Check.define(sheet, 31, "l(1,2"), -105);
        same("a text that is too long", sheet -> Check.define(sheet, 2, "1+".repeat(60)), -220);
    }

    private static void rings() {
        same("input(0, 1)", sheet -> sheet.input(0, 1), -7);
        same("input(0, 2)", sheet -> sheet.input(0, 2), -7);
        same("pour(0, 0, 0, 1)", sheet -> sheet.pour(0, 0, 0, 1), -7);
        same("pour(0, 1, 0, 1)", sheet -> sheet.pour(0, 1, 0, 1), -7);
        same("a batch with a ring", sheet -> sheet.begin() + sheet.drop(5) + sheet.input(0, 2) + sheet.drop(3) + sheet.end(), -6);
        same("would(0, 1)", sheet -> sheet.would(0, 1), -7);
        same("whatIf(0, 1, 5)", sheet -> sheet.whatIf(0, 1, 5), NO);
        same("seek(0, 1, 2, 5, 0)", sheet -> sheet.seek(0, 1, 2, 5, 0), NO);
    }

    private static void withinBatchRefused() {
        same("begin()", ReactiveSheet::begin, -3);
        same("image()", ReactiveSheet::image, -3);
        same("undo()", ReactiveSheet::undo, -3);
        same("pour(0, 0, 0, 1)", sheet -> sheet.pour(0, 0, 0, 1), -3);
        same("pour(0, 0, 0, 0)", sheet -> sheet.pour(0, 0, 0, 0), -3);
        same("pour(0, 2, 0, 1)", sheet -> sheet.pour(0, 2, 0, 1), -13);
        same("copy(4, 5)", sheet -> sheet.copy(4, 5), -3);
        same("copy(2, 0)", sheet -> sheet.copy(2, 0), -2);
        same("freeze(4)", sheet -> sheet.freeze(4), -3);
        same("freeze(3)", sheet -> sheet.freeze(3), -3);
        same("spell(4)", sheet -> sheet.spell(4), -3);
        same("what is told again", sheet -> sheet.input(0, 31) + sheet.drop(3), 0);
    }

    private static void fullRefused() {
        same("feed(49)", sheet -> sheet.feed(49), -4);
        same("feed(0)", sheet -> sheet.feed(0), -2);
        same("feed(128)", sheet -> sheet.feed(128), -2);
        same("watch(1, 0, 0)", sheet -> sheet.watch(1, 0, 0), -4);
        same("watch(32, 0, 0)", sheet -> sheet.watch(32, 0, 0), -1);
        same("quit(8)", sheet -> sheet.quit(8), -1);
        same("undo()", ReactiveSheet::undo, -3);
    }

    // ---- what is asked

    private static void asked() {
        same("whatIf(0, 31, 2)", sheet -> sheet.whatIf(0, 31, 2), NO);
        same("whatIf(5, 1, 2)", sheet -> sheet.whatIf(5, 1, 2), 2);
        same("whatIf(2, 1, 2)", sheet -> sheet.whatIf(2, 1, 2), 1);
        same("would(5, 1)", sheet -> sheet.would(5, 1), 2);
        same("would(1, 1)", sheet -> sheet.would(1, 1), 1);
        same("seek(5, 1, 12, 2, 12)", sheet -> sheet.seek(5, 1, 12, 2, 12), 11);
        same("seek(5, 1, 12, 2, 99)", sheet -> sheet.seek(5, 1, 12, 2, 99), NO);
        same("way(5, 2, 1)", sheet -> sheet.way(5, 2, 1), 1);
        same("why(2, 1)", sheet -> sheet.why(2, 1), 5);
        same("order(0)", sheet -> sheet.order(0), 0);
        same("readers(5)", sheet -> sheet.readers(5), 2);
        same("reads(1, 1)", sheet -> sheet.reads(1, 1), 5);
        same("of(5, 9)", sheet -> sheet.of(5, 9), 2);
        same("value(2)", sheet -> sheet.value(2), 9);
        same("told(4)", sheet -> sheet.told(4), 7);
        same("past(0, 0)", sheet -> sheet.past(0, 0), 1);
        same("log(0, 0)", sheet -> sheet.log(0, 0), 0);
        same("logged(0, 0)", sheet -> sheet.logged(0, 0), 8);
        same("get(0, 1)", sheet -> sheet.get(0, 1), 2);
        same("paper(0)", sheet -> sheet.paper(0), '#');
        same("spell(2), on the paper already", sheet -> sheet.spell(2), 4);
    }

    /** A look that saw nothing would be no test: what does change something is seen. */
    private static void lookSeesAll() {
        begin("one with all", BoundaryAnswersTest::withAll);
        other("input(0, 6)", sheet -> sheet.input(0, 6));
        other("input(0, 5)", sheet -> sheet.input(0, 5));
        other("begin()", ReactiveSheet::begin);
        other("feed(49)", sheet -> sheet.feed(49));
        other("clear()", ReactiveSheet::clear);
        other("image()", ReactiveSheet::image);
        other("undo()", ReactiveSheet::undo);
        other("quit(0)", sheet -> sheet.quit(0));
        other("watch(0, 0, 0)", sheet -> sheet.watch(0, 0, 0));
        other("set(0, 0, 2)", sheet -> sheet.set(0, 0, 2));
        other("spell(1)", sheet -> sheet.spell(1));
        other("list(3, 1)", sheet -> sheet.list(3, 1));
        begin("one within a batch", BoundaryAnswersTest::withinBatch);
        other("input(2, 5)", sheet -> sheet.input(2, 5));
        other("drop(0)", sheet -> sheet.drop(0));
    }

    private static void other(String call, ToLongFunction<ReactiveSheet> one) {
        ReactiveSheet sheet = new ReactiveSheet();
        story.accept(sheet);
        one.applyAsLong(sheet);
        check.due(name + ", behind " + call + ": it is seen", Look.at(sheet).equals(twin) ? 0 : 1, 1);
    }
}
