/** The boundary cases of promises 30 to 37: each sentence of theirs that names one has a run of its own. */
public final class BoundaryListTest {
    private static final Check check = new Check("BoundaryListTest");

    /** 0 holds 10 11 12 13, 1 holds 20 21, 2 holds a row of none, 3 holds nothing. */
    private static final String ROWS = """
        list(0, 4) ; list(1, 2) ; list(2, 0)
        k=0..3: set(0, k, k+10)
        k=0..1: set(1, k, k+20)
        """;

    public static void main(String[] args) {
        list();
        set();
        get();
        move();
        moveBeyond();
        fill();
        fillBeyond();
        pour();
        pourBeyond();
        pourOrder();
        image();
        undo();
        undoOf();
        staysByUndo();
        check.end();
    }

    private static void due(String sentence, String lines) {
        Lines.run(check, sentence, lines);
    }

    private static void list() {
        due("30: NONE: list", "list(-1, 1) = -1 ; list(4, 1) = -1 ; list(IMAX, 1) = -1 ; list(IMIN, 1) = -1");
        due("30: NONE ahead of BAD, of BELOW", "list(4, 41) = -1 ; list(-1, -1) = -1");
        due("30: BAD: n above 40", """
            list(0, 41) = -2 ; list(0, IMAX) = -2 ; set(0, 0, 1) = -11 ; list(0, 40) = 1 ; list(0, 41) = -2
            set(0, 39, 1) = 1
            """);
        due("30: BELOW", """
            list(0, -1) = -14 ; list(0, IMIN) = -14 ; set(0, 0, 1) = -11 ; list(0, 2) = 1 ; list(0, -1) = -14
            get(0, 1) = 0
            """);
        due("30: a row of none", """
            list(0, 0) = 1 ; get(0, 0) = NO ; set(0, 0, 1) = -13 ; fill(0, 0, 0, 0) = 0 ; move(0, 0, 0, 0, 0) = 0
            """);
        due("30: a row of 40 longs, all 0", """
            list(3, 40) = 1
            k=0..39: get(3, k) = 0
            get(3, 40) = NO ; get(2, 0) = NO
            """);
        due("30: all 0, whatever was there", """
            list(0, 40)
            k=0..39: set(0, k, 7)
            list(0, 40) = 1
            k=0..39: get(0, k) = 0
            list(0, 1) = 1 ; get(0, 0) = 0 ; get(0, 1) = NO
            """);
        due("30: shorter, and longer again", """
            list(0, 3) ; set(0, 2, 5) ; list(0, 1) ; get(0, 2) = NO ; list(0, 3) ; get(0, 2) = 0
            """);
        due("30: the other LISTS stay", ROWS + """
            list(1, 40) ; row(0) = "10 11 12 13" ; get(2, 0) = NO ; list(0, 40) ; get(1, 0) = 0 ; set(1, 0, 3)
            list(0, 40) ; get(1, 0) = 3
            """);
        due("30: LISTS 0 .. 3", """
            k=0..3: list(k, 40) = 1 ; set(k, 39, k) = 1 ; set(k, 0, k+50) = 1
            k=0..3: get(k, 39) = k ; get(k, 0) = k+50 ; get(k, 40) = NO
            """);
    }

    private static void set() {
        due("31: NONE", """
            set(-1, 0, 1) = -1 ; set(4, 0, 1) = -1 ; set(IMAX, 0, 1) = -1 ; set(IMIN, 0, 1) = -1 ; set(4, -1, 1) = -1
            """);
        due("31: NOTHING", "set(0, 0, 1) = -11 ; set(3, 0, 1) = -11 ; set(0, -1, 1) = -11 ; set(0, 40, 1) = -11");
        due("31: BEYOND", ROWS + """
            set(0, 4, 1) = -13 ; set(0, -1, 1) = -13 ; set(0, IMAX, 1) = -13 ; set(0, IMIN, 1) = -13
            set(2, 0, 1) = -13 ; row(0) = "10 11 12 13" ; row(1) = "20 21"
            """);
        due("31: place i becomes v", ROWS + """
            set(0, 0, MAX) = 1 ; set(0, 3, MIN) = 1 ; get(0, 0) = MAX ; get(0, 3) = MIN ; get(0, 1) = 11
            get(0, 2) = 12
            """);
        due("31: no WAVE, within a BATCH, too", """
            list(0, 1) ; begin() ; set(0, 0, 5) = 1 ; get(0, 0) = 5 ; end() = 0 ; told(5) = 1
            """);
    }

    private static void get() {
        due("32: NO: no such LIST", "get(-1, 0) = NO ; get(4, 0) = NO ; get(IMAX, 0) = NO ; get(IMIN, 0) = NO");
        due("32: NO: nothing there", "k=0..3: get(k, 0) = NO ; get(k, -1) = NO ; get(k, 39) = NO");
        due("32: NO: no such place", ROWS + """
            get(0, 3) = 13 ; get(0, 4) = NO ; get(0, -1) = NO ; get(0, IMAX) = NO ; get(0, IMIN) = NO ; get(2, 0) = NO
            get(1, -1) = NO ; get(1, 2) = NO
            """);
    }

    private static void move() {
        due("33: NONE: lists", ROWS + """
            move(-1, 0, 0, 0, 1) = -1 ; move(4, 0, 0, 0, 1) = -1 ; move(0, 0, -1, 0, 1) = -1
            move(0, 0, 4, 0, 1) = -1 ; move(3, 0, 4, 0, 1) = -1 ; move(4, -1, 3, -1, -1) = -1
            """);
        due("33: NOTHING", ROWS + """
            move(3, 0, 0, 0, 1) = -11 ; move(0, 0, 3, 0, 1) = -11 ; move(3, 0, 3, 0, 0) = -11
            move(0, -1, 3, 0, 1) = -11 ; move(0, 0, 3, 0, 99) = -11
            """);
        due("33: n", ROWS + """
            move(0, 0, 1, 0, 2) = 2 ; row(1) = "10 11" ; move(0, 3, 1, 1, 1) = 1 ; row(1) = "10 13"
            row(0) = "10 11 12 13"
            """);
        due("33: as they all were before: to the right", ROWS + "move(0, 0, 0, 1, 3) = 3 ; row(0) = \"10 10 11 12\"");
        due("33: as they all were before: to the left", ROWS + "move(0, 1, 0, 0, 3) = 3 ; row(0) = \"11 12 13 13\"");
        due("33: the same, to the same place", ROWS + "move(0, 0, 0, 0, 4) = 4 ; row(0) = \"10 11 12 13\"");
        due("33: all 40", """
            list(0, 40) ; list(3, 40)
            k=0..39: set(0, k, k)
            move(0, 0, 3, 0, 40) = 40
            k=0..39: get(3, k) = k
            move(0, 0, 3, 0, 41) = -13 ; move(0, 0, 3, 1, 40) = -13 ; move(0, 1, 3, 0, 40) = -13
            """);
    }

    private static void moveBeyond() {
        due("33: BEYOND: n below 0", ROWS + """
            move(0, 0, 1, 0, -1) = -13 ; move(0, 3, 1, 1, -1) = -13 ; move(0, 0, 1, 0, IMIN) = -13
            move(0, 2, 0, 2, -2) = -13
            """);
        due("33: BEYOND: i below 0", ROWS + """
            move(0, -1, 1, 0, 1) = -13 ; move(0, -1, 1, 0, 0) = -13 ; move(0, IMIN, 1, 0, 1) = -13
            move(1, -2, 0, 0, 2) = -13
            """);
        due("33: BEYOND: j below 0", ROWS + """
            move(0, 0, 1, -1, 1) = -13 ; move(0, 0, 1, -1, 0) = -13 ; move(0, 0, 1, IMIN, 1) = -13
            """);
        due("33: BEYOND: beyond the one's end", ROWS + """
            move(1, 0, 0, 0, 3) = -13 ; move(1, 1, 0, 0, 2) = -13 ; move(1, 2, 0, 0, 1) = -13
            move(1, 3, 0, 0, 0) = -13 ; move(2, 0, 0, 0, 1) = -13
            """);
        due("33: BEYOND: beyond the other's end", ROWS + """
            move(0, 0, 1, 0, 3) = -13 ; move(0, 0, 1, 1, 2) = -13 ; move(0, 0, 1, 2, 1) = -13
            move(0, 0, 1, 3, 0) = -13 ; move(0, 0, 2, 0, 1) = -13
            """);
        due("33: BEYOND: with no wrap-around", ROWS + """
            move(0, IMAX, 1, 0, 1) = -13 ; move(0, 0, 1, IMAX, 1) = -13 ; move(0, 0, 1, 0, IMAX) = -13
            move(0, 1, 1, 1, IMAX) = -13
            move(0, IMAX, 1, IMAX, IMAX) = -13 ; move(0, IMAX, 0, 0, 0) = -13 ; move(0, 2, 0, 2, IMAX-1) = -13
            row(0) = "10 11 12 13" ; row(1) = "20 21"
            """);
        due("33: just at the ends none", ROWS + """
            move(0, 4, 1, 2, 0) = 0 ; move(2, 0, 2, 0, 0) = 0 ; move(0, 4, 2, 0, 0) = 0 ; row(1) = "20 21"
            """);
    }

    private static void fill() {
        due("34: NONE: list, cell", ROWS + """
            fill(-1, 0, 0, 1) = -1 ; fill(4, 0, 0, 1) = -1 ; fill(0, 0, -1, 1) = -1 ; fill(0, 0, 32, 1) = -1
            fill(0, 0, 32, 0) = -1 ; fill(0, 0, IMAX, 1) = -1 ; fill(IMIN, 0, IMIN, 1) = -1
            """);
        due("34: NONE ahead of BAD, NOTHING, BEYOND", """
            fill(4, 0, 0, -1) = -1 ; fill(0, 0, 32, -1) = -1 ; fill(3, -1, -1, 1) = -1
            """);
        due("34: BAD: n is below 0", ROWS + """
            fill(0, 0, 0, -1) = -2 ; fill(0, 0, 31, -1) = -2 ; fill(0, 0, 0, IMIN) = -2
            """);
        due("34: BAD: not so many CELLS", """
            list(0, 40) ; fill(0, 0, 0, 33) = -2 ; fill(0, 0, 31, 2) = -2 ; fill(0, 0, 1, 32) = -2
            fill(0, 0, 0, IMAX) = -2 ; fill(0, 0, 31, IMAX) = -2 ; get(0, 0) = 0 ; fill(0, 0, 0, 32) = 32
            fill(0, 0, 1, 31) = 31 ; fill(0, 0, 31, 1) = 1
            """);
        due("34: BAD ahead of NOTHING, BEYOND", ROWS + """
            fill(3, 0, 0, -1) = -2 ; fill(3, 0, 31, 2) = -2 ; fill(0, -1, 0, -1) = -2 ; fill(0, 9, 31, 2) = -2
            """);
        due("34: NOTHING", ROWS + """
            fill(3, 0, 0, 1) = -11 ; fill(3, 0, 0, 0) = -11 ; fill(3, -1, 0, 1) = -11 ; get(3, 0) = NO
            """);
        due("34: an ERROR e as NO and e", """
            list(0, 4) ; input(9, MAX) ; "#9+1" define(0) ; "1/0" define(1) ; fill(0, 0, 0, 4) = 4 ; get(0, 0) = NO+1
            get(0, 1) = NO+2
            get(0, 2) = NO+3 ; get(0, 3) = NO+3
            """);
        due("34: a number as it is", """
            list(0, 3) ; input(0, MIN) ; input(1, MAX) ; input(2, 0) ; fill(0, 0, 0, 3) = 3 ; get(0, 0) = MIN
            get(0, 1) = MAX ; get(0, 2) = 0
            """);
        due("34: no WAVE, and as ahead of a BATCH", """
            list(0, 1) ; input(0, 1) ; begin() ; input(0, 2) ; fill(0, 0, 0, 1) = 1 ; get(0, 0) = 1 ; end()
            fill(0, 0, 0, 1) ; get(0, 0) = 2 ; told(5) = 2
            """);
    }

    private static void fillBeyond() {
        String cells = ROWS + "input(0, 1) ; input(1, 2) ; input(2, 3) ; input(3, 4) ; input(4, 5)\n";
        due("34: n", cells + """
            fill(0, 0, 0, 4) = 4 ; row(0) = "1 2 3 4" ; fill(0, 3, 4, 1) = 1 ; row(0) = "1 2 3 5"
            fill(0, 0, 0, 0) = 0
            """);
        due("34: BEYOND: not all were (those that had a place are there)", cells + """
            fill(0, 0, 0, 5) = -13 ; row(0) = "1 2 3 4" ; row(1) = "20 21"
            """);
        due("34: BEYOND: those that had a place: one", cells + "fill(0, 3, 0, 2) = -13 ; row(0) = \"10 11 12 1\"");
        due("34: BEYOND: those that had a place: none", cells + """
            fill(0, 4, 0, 1) = -13 ; fill(2, 0, 0, 1) = -13 ; fill(0, IMAX, 0, 1) = -13 ; fill(0, IMAX, 0, 5) = -13
            row(0) = "10 11 12 13"
            """);
        due("34: BEYOND: none, if i is below 0", cells + """
            fill(0, -1, 0, 2) = -13 ; fill(0, -1, 0, 5) = -13 ; fill(0, IMIN, 0, 5) = -13 ; fill(1, -1, 0, 2) = -13
            row(0) = "10 11 12 13" ; row(1) = "20 21"
            """);
        due("34: n 0: all were", cells + """
            fill(0, 4, 0, 0) = 0 ; fill(2, 0, 31, 0) = 0 ; fill(0, 9, 0, 0) = 0 ; row(0) = "10 11 12 13"
            """);
        due("34: all 32 CELLS into 40 places", """
            list(0, 40)
            k=0..31: input(k, k+1)
            fill(0, 8, 0, 32) = 32 ; get(0, 7) = 0 ; get(0, 8) = 1 ; get(0, 39) = 32 ; fill(0, 9, 0, 32) = -13
            get(0, 9) = 1 ; get(0, 39) = 31 ; get(0, 8) = 1
            """);
    }

    private static void pour() {
        due("35: NONE: list, cell", ROWS + """
            pour(-1, 0, 0, 1) = -1 ; pour(4, 0, 0, 1) = -1 ; pour(0, 0, -1, 1) = -1 ; pour(0, 0, 32, 1) = -1
            pour(0, 0, 32, 0) = -1 ; pour(IMAX, 0, IMIN, 1) = -1
            """);
        due("35: BAD likewise: n is below 0", ROWS + "pour(0, 0, 0, -1) = -2 ; pour(0, 0, 31, IMIN) = -2");
        due("35: BAD likewise: not so many CELLS", """
            list(0, 40) ; pour(0, 0, 0, 33) = -2 ; pour(0, 0, 31, 2) = -2 ; pour(0, 0, 31, IMAX) = -2 ; told(5) = 0
            pour(0, 0, 0, 32) = 0 ; told(0) = 32 ; pour(0, 39, 31, 1) = 0
            """);
        due("35: NOTHING", ROWS + "pour(3, 0, 0, 1) = -11 ; pour(3, 0, 0, 0) = -11 ; pour(3, -1, 0, 1) = -11");
        due("35: how many RAN, as a BATCH", ROWS + """
            "s0-3" define(9) ; "#9" define(10) ; pour(0, 0, 0, 4) = 2 ; value(9) = 46 ; told(5) = 3 ; past(0, 0) = 4
            past(0, 2) = 6
            pour(0, 0, 0, 4) = 0 ; past(0, 0) = 4 ; past(0, 2) = 0 ; pour(0, 1, 9, 1) = 1 ; value(10) = 11
            of(9, 0) = 1
            """);
        due("35: every long is a number", """
            list(0, 3) ; set(0, 0, MIN) ; set(0, 1, NO+3) ; set(0, 2, MAX) ; pour(0, 0, 29, 3) = 0 ; of(29, 1) = 0
            value(30) = NO+3 ; of(30, 1) = 0 ; value(31) = MAX
            """);
        due("35: n 0: an empty BATCH", ROWS + """
            pour(0, 0, 0, 0) = 0 ; told(5) = 1 ; past(0, 0) = 0 ; told(0) = 0 ; pour(2, 0, 31, 0) = 0
            pour(0, 9, 0, 0) = 0 ; told(5) = 3
            """);
    }

    private static void pourBeyond() {
        due("35: BEYOND: (nothing is told then)", ROWS + """
            pour(0, 0, 0, 5) = -13 ; pour(0, 3, 0, 2) = -13 ; pour(0, 4, 0, 1) = -13 ; pour(0, -1, 0, 1) = -13
            pour(0, -1, 0, 5) = -13
            pour(0, IMAX, 0, 2) = -13 ; pour(0, IMIN, 0, 2) = -13 ; pour(2, 0, 0, 1) = -13 ; told(0) = 0 ; told(5) = 0
            row(0) = "10 11 12 13"
            """);
        due("35: just at the end", ROWS + """
            pour(0, 3, 0, 1) = 0 ; value(0) = 13 ; pour(1, 0, 0, 2) = 0 ; value(1) = 21 ; pour(1, 1, 0, 2) = -13
            value(0) = 20
            """);
        due("35: STATE: there is a BATCH", ROWS + """
            begin() ; pour(0, 0, 0, 1) = -3 ; pour(0, 0, 0, 0) = -3 ; told(9) = 0 ; end() = 0 ; told(0) = 0
            told(8) = 0
            """);
        due("35: RING", ROWS + """
            input(0, 5) ; "@#0" define(11) = 1 ; pour(0, 1, 0, 1) = -7 ; value(0) = 5 ; told(5) = 2 ; told(8) = 0
            told(9) = 0 ; pour(0, 0, 0, 1) = 1
            """);
    }

    private static void pourOrder() {
        due("35: the first that its words name: NONE", "begin() ; pour(4, 9, 0, -1) = -1 ; pour(0, 9, 32, -1) = -1");
        due("35: the first that its words name: BAD", "begin() ; pour(0, 9, 0, -1) = -2 ; pour(0, 9, 31, 2) = -2");
        due("35: the first that its words name: NOTHING", """
            begin() ; pour(0, 9, 0, 1) = -11 ; pour(0, -1, 0, 1) = -11
            """);
        due("35: the first that its words name: BEYOND", ROWS + """
            begin() ; pour(0, 9, 0, 1) = -13 ; pour(0, -1, 0, 1) = -13 ; pour(0, 3, 0, 2) = -13
            """);
    }

    private static void image() {
        due("36: how many CELLS aren't ABSENT", """
            image() = 0 ; input(0, 1) ; image() = 1 ; "1/0" define(31) ; image() = 2 ; drop(0) ; image() = 1
            """);
        due("36: 32", "k=0..31: input(k, 1)\nimage() = 32 ; undo() = 32");
        due("36: STATE: there is a BATCH", """
            input(0, 1) ; begin() ; image() = -3 ; undo() = -3 ; cancel() ; undo() = -3 ; begin() ; end()
            image() = 1
            """);
        due("36: the latest counts", """
            input(0, 1) ; image() = 1 ; input(0, 2) ; input(1, 2) ; image() = 2 ; drop(0) ; drop(1) ; undo() = 2
            value(0) = 2
            """);
        due("36: a refused one leaves that of before", """
            input(0, 1) ; image() ; input(0, 2) ; begin() ; image() = -3 ; cancel() ; undo() = 1 ; value(0) = 1
            """);
        due("36: is no WAVE", "input(0, 1) ; image() ; told(5) = 1 ; told(3) = 1 ; of(0, 6) = 1");
    }

    private static void undo() {
        due("37: STATE: there is none", "undo() = -3 ; input(0, 1) ; undo() = -3 ; value(0) = 1");
        due("37: STATE: there is a BATCH", """
            input(0, 1) ; image() ; input(0, 2) ; begin() ; input(0, 3) ; undo() = -3 ; told(9) = 1 ; end() = 0
            value(0) = 3 ; undo() = 1 ; value(0) = 1
            """);
        due("37: how many CELLS aren't ABSENT", """
            image() = 0 ; input(0, 1) ; input(1, 1) ; undo() = 0 ; told(0) = 0 ; of(1, 0) = 0
            """);
        due("37: again, and again", """
            input(0, 1) ; image()
            k=2..9: input(0, k) ; undo() = 1 ; value(0) = 1
            undo() = 1 ; undo() = 1
            """);
        due("37: told(5), past() count on", """
            image() ; input(0, 1) ; undo() ; told(5) = 1 ; past(0, 0) = 1 ; input(0, 1) = 0 ; told(3) = 1
            told(5) = 2 ; past(1, 2) = 1 ; past(2, 0) = -1
            """);
    }

    private static void undoOf() {
        due("37: CELLS with all that is theirs", """
            input(0, 1) ; "#0" define(1) ; "#1+#0" define(2) ; input(0, 2) = 2 ; image() = 3
            drop(0) ; "#5" define(1) ; input(2, 9) ; input(5, 5) ; undo() = 3
            of(0, 0) = 1 ; of(1, 0) = 2 ; of(2, 0) = 2 ; value(2) = 4 ; of(2, 2) = 2 ; of(1, 3) = 2 ; of(2, 3) = 2
            reads(2) = "1 0"
            readers(0) = 6 ; of(5, 0) = 0 ; of(0, 9) = 2 ; order() = "0 1 2" ; spelling(2) = "#1+#0"
            way(0, 2) = "0 2"
            input(0, 3) = 2 ; value(2) = 6 ; of(2, 3) = 3
            """);
        due("37: whether CHANGED, RAN, by what CAUSE, how many of each", """
            input(0, 1) ; "#0" define(1) ; "#1*0" define(2) ; input(0, 2) = 2 ; image() ; input(9, 9) ; drop(1)
            told(2) = 1 ; told(3) = 2 ; undo()
            told(2) = 2 ; told(3) = 2 ; of(0, 6) = 1 ; of(1, 6) = 1 ; of(2, 6) = 0 ; of(2, 7) = 1 ; of(2, 8) = 1
            of(1, 8) = 0 ; why(2) = "1 0"
            of(9, 6) = 0 ; told(4) = 4 ; told(12) = 2
            """);
        due("37: WATCHERS", """
            watch(0, 0, 0) ; watch(0, 0, 0) ; quit(1) ; image() ; quit(0) ; watch(1, 1, 1) = 2 ; undo() ; told(6) = 2
            quit(1) = 0 ; quit(2) = -1
            input(0, 1) ; told(7) = 1 ; quit(0) = 1 ; watch(5, 0, 0) = 2
            """);
        due("37: WATCHERS: from none, to eight", """
            image()
            k=0..7: watch(0, 0, 0)
            undo() ; told(6) = 0 ; quit(0) = -1 ; input(0, 1) ; told(7) = 0
            k=0..7: watch(0, 0, 0) = k
            image() ; undo() ; told(6) = 8 ; watch(0, 0, 0) = -4
            """);
        due("37: THE LOG", """
            watch(0, 0, 0) ; input(0, 1) ; image() ; input(0, 2) ; input(0, 3) ; undo() ; told(7) = 1
            logged(0, 1) = 1 ; log(1, 0) = -1 ; input(0, 9) ; told(7) = 2 ; logged(1, 0) = 1 ; logged(1, 1) = 9
            """);
        due("37: THE LOG: full then, full since", """
            watch(0, 0, 0)
            k=1..62: input(0, k)
            image()
            k=63..90: input(0, k)
            undo() ; told(7) = 60
            k=0..59: logged(k, 0) = k+2 ; logged(k, 1) = k+3
            input(0, 5) ; told(7) = 60 ; logged(0, 1) = 4 ; logged(59, 0) = 62 ; logged(59, 1) = 5
            """);
        due("37: THE LOG: who told, and what ERRORS there were", """
            watch(0, 0, 0) ; input(0, 1) ; drop(0) ; input(0, 1) ; "1/0" define(0) ; image() ; watch(1, 0, 0)
            k=1..70: input(1, k)
            log(0, 0) = 1 ; undo() ; told(7) = 4
            k=0..3: log(k, 0) = 0
            log(0, 1) = 3 ; log(0, 2) = 0 ; log(1, 1) = 0 ; log(1, 2) = 3 ; log(2, 1) = 3 ; log(3, 1) = 0
            log(3, 2) = 2
            logged(0, 0) = NO ; logged(0, 1) = 1 ; logged(1, 0) = 1 ; logged(1, 1) = NO ; logged(3, 0) = 1
            """);
    }

    private static void staysByUndo() {
        due("37: THE TAPE stays", """
            image() ; "12" undo() ; told(10) = 2 ; image() ; clear() ; undo() ; told(10) = 0
            """);
        due("37: THE PAPER stays", """
            "12" define(0) ; "345" define(1) ; spell(0) ; image() ; spell(1) ; undo() ; paper() = "345" ; told(11) = 3
            """);
        due("37: LISTS stay", """
            list(0, 1) ; image() ; set(0, 0, 5) ; list(1, 3) ; undo() ; get(0, 0) = 5 ; get(1, 2) = 0 ; get(1, 3) = NO
            """);
        due("37: how many WAVES there were, past() stay", """
            input(0, 1) ; image() ; begin() ; input(0, 2) ; input(1, 1) ; end() ; undo() ; told(5) = 2
            past(0, 0) = 2 ; past(0, 2) = 2 ; past(1, 0) = 1
            """);
        due("37: the next WAVE is ahead of what was undone", """
            input(0, 1) ; "#0" define(1) ; watch(1, 0, 0) ; image() ; input(0, 2) ; undo() ; input(0, 2) = 1
            logged(0, 0) = 1 ; logged(0, 1) = 2 ; told(7) = 1
            """);
    }
}
