/** The boundary cases of promises 1 to 9 and 11: each sentence of theirs that names one has a run of its own. */
public final class BoundaryTellingTest {
    private static final Check check = new Check("BoundaryTellingTest");

    public static void main(String[] args) {
        newObject();
        input();
        define();
        drop();
        copy();
        copyShifts();
        freeze();
        begin();
        end();
        cancel();
        afterAll();
        check.end();
    }

    private static void due(String sentence, String lines) {
        Lines.run(check, sentence, lines);
    }

    private static void newObject() {
        due("1: all CELLS are ABSENT", """
            k=0..31: of(k, 0) = 0 ; of(k, 1) = 3 ; of(k, 2) = 0 ; of(k, 3) = 0
            k=0..31: of(k, 4) = 0 ; of(k, 5) = 0 ; of(k, 6) = 0 ; of(k, 7) = 0
            k=0..31: of(k, 8) = -5 ; of(k, 9) = 0 ; value(k) = NO ; reads(k, 0) = -1 ; readers(k) = 0 ; why(k, 0) = -1
            """);
        due("1: nothing else is there", """
            k=0..12: told(k) = 0
            k=0..3: get(k, 0) = NO ; set(k, 0, 1) = -11
            k=0..3: past(0, k) = -1
            k=0..2: log(0, k) = -1
            k=0..1: logged(0, k) = NO
            order(0) = -1 ; paper(0) = -1 ; undo() = -3 ; end() = -3 ; cancel() = -3 ; quit(0) = -1 ; clear() = 0
            define(0) = -100
            """);
        due("1: each object by itself", "input(0, 1) ; list(0, 1) ; watch(0, 0, 0)");
        due("1: each object by itself, another", "told(0) = 0 ; told(6) = 0 ; get(0, 0) = NO ; value(0) = NO");
    }

    private static void input() {
        due("2: NONE", """
            input(-1, 0) = -1 ; input(32, 0) = -1 ; input(IMAX, 0) = -1 ; input(IMIN, 0) = -1 ; input(64, 0) = -1
            told(5) = 0
            """);
        due("2: how many FORMULAS RAN: none", """
            input(0, 1) = 0 ; input(0, 1) = 0 ; input(0, 2) = 0 ; "1" define(1) ; input(0, 3) = 0
            """);
        due("2: how many FORMULAS RAN: all others", """
            input(31, 1) = 0 ; "#31" define(30) ; "#30" define(0)
            k=1..29: "#31" define(k) = 1
            input(31, 2) = 31 ; told(2) = 31 ; told(3) = 32 ; input(31, 2) = 0 ; told(2) = 0
            """);
        due("2: a FORMULA, an ABSENT one, an INPUT becomes one", """
            "1/0" define(0) ; input(0, 2) = 0 ; of(0, 0) = 1 ; of(0, 1) = 0 ; of(0, 4) = 0 ; input(1, 3) = 0
            of(1, 0) = 1 ; input(1, MIN) = 0
            value(1) = MIN ; of(1, 1) = 0
            """);
        due("2: RING", """
            input(0, 5) ; "@#0" define(1) ; input(0, 1) = -7 ; value(0) = 5 ; told(5) = 2 ; input(0, 2) = 1
            """);
    }

    private static void define() {
        due("3: NONE (THE TAPE stays)", """
            "1+2" define(-1) = -1 ; define(32) = -1 ; define(IMAX) = -1 ; define(IMIN) = -1 ; told(10) = 3
            define(0) = 1 ; value(0) = 3
            """);
        due("3: NONE ahead of a FAULT", """
            define(32) = -1 ; "x" define(32) = -1 ; told(10) = 1 ; define(0) = -100 ; told(10) = 0
            """);
        due("3: -100 less the FAULT", """
            define(0) = -100 ; "x" define(0) = -100 ; "1x" define(0) = -101 ; "12+x" define(0) = -103 ; told(5) = 0
            of(0, 0) = 0
            """);
        due("3: how many RAN: it alone, with others", """
            "1" define(0) = 1 ; "#0" define(1) = 1 ; "#1" define(2) = 1 ; "1" define(0) = 1 ; "2" define(0) = 3
            "3" define(31) = 1
            """);
        due("3: RING (THE TAPE is empty)", """
            "#1" define(0) = 1 ; "#0" define(1) = -7 ; told(10) = 0 ; of(1, 0) = 0 ; told(5) = 1 ; "#0" define(0) = -7
            spelling(0) = "#1"
            """);
        due("3: a CELL of any kind", """
            input(0, 1) ; "2" define(0) = 1 ; of(0, 0) = 2 ; "3" define(0) = 1 ; "4" define(1) = 1 ; value(0) = 3
            """);
    }

    private static void drop() {
        due("4: NONE", "drop(-1) = -1 ; drop(32) = -1 ; drop(IMAX) = -1 ; drop(IMIN) = -1 ; told(5) = 0");
        due("4: an ABSENT one", "drop(0) = 0 ; drop(31) = 0 ; told(5) = 2 ; told(3) = 0 ; past(0, 0) = 1");
        due("4: how many RAN", """
            input(0, 1) ; "#0" define(1) ; "!#1" define(2) ; drop(0) = 2 ; value(2) = 1 ; drop(0) = 0 ; drop(1) = 0
            drop(2) = 0 ; told(1) = 0
            """);
        due("4: a FORMULA loses what is its own", """
            input(0, 1) ; "#0" define(1) ; drop(1) = 0 ; of(1, 2) = 0 ; of(1, 3) = 0 ; of(1, 4) = 0 ; of(0, 5) = 0
            of(1, 7) = 0 ; spell(1) = -3
            copy(1, 2) = -3 ; freeze(1) = -3 ; told(4) = 0
            """);
        due("4: RING", """
            input(0, 1) ; "!#0?#1:2" define(1) = 1 ; drop(0) = -7 ; of(0, 0) = 1 ; value(1) = 2 ; told(5) = 2
            """);
    }

    private static void copy() {
        due("5: NONE: cell, to", """
            "1" define(0) ; copy(-1, 0) = -1 ; copy(32, 0) = -1 ; copy(0, -1) = -1 ; copy(0, 32) = -1
            copy(IMAX, 0) = -1
            copy(0, IMAX) = -1 ; copy(IMIN, IMAX) = -1 ; copy(0, IMIN) = -1 ; told(5) = 1
            """);
        due("5: NONE ahead of STATE", "input(1, 1) ; copy(0, 32) = -1 ; copy(0, -1) = -1 ; copy(1, 32) = -1");
        due("5: STATE: the CELL is no FORMULA", """
            input(1, 1) ; copy(0, 1) = -3 ; copy(1, 0) = -3 ; copy(0, 0) = -3 ; copy(1, 1) = -3
            """);
        due("5: an ERROR is no STATE", "\"1/0\" define(0) ; copy(0, 1) = 1 ; of(1, 1) = 2");
        due("5: to the same", """
            input(9, 1) ; "#9" define(0) ; input(9, 2) ; of(0, 3) = 2 ; copy(0, 0) = 1 ; of(0, 3) = 1 ; told(3) = 0
            spelling(0) = "#9"
            """);
        due("5: over an INPUT, over a FORMULA", """
            "7" define(0) ; input(1, 5) ; "#1" define(2) ; copy(0, 1) = 2 ; value(2) = 7 ; of(1, 0) = 2
            copy(0, 2) = 1 ; of(2, 4) = 0
            """);
        due("5: RING", "\"#1\" define(0) ; \"#1\" define(2) ; copy(0, 1) = -7 ; of(1, 0) = 0 ; told(5) = 2");
        due("5: RING behind BAD", """
            "#31" define(0) ; copy(0, 1) = -2 ; "#1" define(2) ; copy(2, 0) = -2 ; copy(2, 1) = 1
            """);
    }

    private static void copyShifts() {
        due("5: as much greater: #n", """
            "#1" define(0) ; copy(0, 5) = 1 ; spelling(5) = "#6" ; copy(0, 30) = 1 ; spelling(30) = "#31"
            """);
        due("5: BAD: n would be 32", "\"#1\" define(0) ; copy(0, 31) = -2 ; of(31, 0) = 0 ; told(5) = 1");
        due("5: less, if that is less", "\"#4\" define(5) ; copy(5, 1) = 1 ; spelling(1) = \"#0\" ; copy(5, 0) = -2");
        due("5: sn-m, both", """
            "s3-5" define(9) ; copy(9, 6) = 1 ; spelling(6) = "s0-2" ; copy(9, 5) = -2 ; copy(9, 31) = 1
            spelling(31) = "s25-27"
            """);
        due("5: BAD: m would be 32", """
            "s10-30" define(0) ; copy(0, 1) = 1 ; spelling(1) = "s11-31" ; copy(0, 2) = -2
            """);
        due("5: BAD: n would be -1, m would not", """
            "s0-9" define(31) ; copy(31, 30) = -2 ; "s1-9" define(31) ; copy(31, 30) = 1
            """);
        due("5: BAD: one of many", """
            "#5+#6+#31" define(0) ; copy(0, 1) = -2 ; "#5+#0+#6" define(9) ; copy(9, 8) = -2
            """);
        due("5: BAD: also in what isn't worked out", """
            "1?2:#31" define(0) = 1 ; copy(0, 1) = -2 ; "1/0+#31" define(0) = 1 ; copy(0, 1) = -2
            """);
        due("5: numbers, and @ of them, stay", """
            "@3+31" define(0) ; copy(0, 31) = 1 ; spelling(31) = "@3+31" ; copy(31, 0) = 1
            """);
        due("5: the CELL's own text stays", """
            "#1" define(0) ; copy(0, 5) ; spelling(0) = "#1" ; reads(0) = "1" ; reads(5) = "6"
            """);
        due("5: a copy of a copy", """
            "#1+s2-3" define(0) ; copy(0, 5) ; copy(5, 20) ; spelling(20) = "#21+s22-23" ; copy(20, 0) = 1
            spelling(0) = "#1+s2-3"
            """);
    }

    private static void freeze() {
        due("6: NONE", "freeze(-1) = -1 ; freeze(32) = -1 ; freeze(IMAX) = -1 ; freeze(IMIN) = -1 ; told(5) = 0");
        due("6: STATE: it is no FORMULA", "freeze(0) = -3 ; input(0, 1) ; freeze(0) = -3 ; told(5) = 1");
        due("6: STATE: an ERROR", """
            input(0, MAX) ; "1/0" define(1) ; freeze(1) = -3 ; "#9" define(1) ; freeze(1) = -3 ; "#0+1" define(1)
            freeze(1) = -3
            of(1, 0) = 2 ; told(5) = 4
            """);
        due("6: the number that its VALUE is", """
            input(0, MIN) ; "#0" define(1) ; "#1" define(2) ; freeze(1) = 0 ; of(1, 0) = 1 ; value(1) = MIN
            of(1, 1) = 0
            told(3) = 0 ; told(5) = 4 ; of(2, 7) = 0 ; of(2, 2) = 1 ; input(0, 3) = 0 ; "0" define(5) ; freeze(5) = 0
            value(5) = 0
            """);
        due("6: again", "\"4\" define(31) ; freeze(31) = 0 ; freeze(31) = -3");
    }

    private static void begin() {
        due("7: a BATCH begins: 1", "begin() = 1 ; told(8) = 1 ; told(9) = 0 ; told(5) = 0");
        due("7: STATE: there is one", """
            begin() ; input(0, 1) ; begin() = -3 ; told(9) = 1 ; end() = 0 ; value(0) = 1 ; begin() = 1
            """);
        due("7: behind one that is over", """
            begin() = 1 ; end() = 0 ; begin() = 1 ; cancel() = 0 ; begin() = 1 ; "#0" define(0) ; end() = -7
            begin() = 1
            """);
    }

    private static void end() {
        due("8: STATE: there is none", """
            end() = -3 ; begin() ; end() ; end() = -3 ; begin() ; cancel() ; end() = -3 ; told(5) = 1
            """);
        due("8: how many RAN", """
            input(0, 1) ; "#0" define(1) ; "#1" define(2) ; begin() ; input(0, 2) ; "#0" define(3) ; end() = 3
            told(2) = 3
            begin() ; end() = 0
            """);
        due("8: RING (nothing of it is done)", """
            input(0, 1) ; begin() ; input(0, 2) ; input(5, 5) ; drop(0) ; "#1" define(1) ; end() = -7
            value(0) = 1 ; of(5, 0) = 0 ; of(1, 0) = 0 ; told(5) = 1 ; past(0, 0) = 1
            """);
        due("8: RING (it is over)", """
            begin() ; "#1" define(1) ; end() = -7 ; told(8) = 0 ; told(9) = 0 ; end() = -3 ; cancel() = -3
            input(3, 3) = 0 ; value(3) = 3
            begin() = 1 ; end() = 0 ; of(1, 0) = 0
            """);
    }

    private static void cancel() {
        due("9: STATE", "cancel() = -3 ; begin() ; cancel() ; cancel() = -3 ; begin() ; end() ; cancel() = -3");
        due("9: how many CELLS it told", """
            begin() ; cancel() = 0 ; begin() ; input(0, 1) ; input(0, 2) ; drop(31) ; input(32, 1) ; cancel() = 2
            begin()
            k=0..31: input(k, 1)
            cancel() = 32 ; told(0) = 0
            """);
        due("9: nothing of it done", """
            input(0, 1) ; begin() ; input(0, 2) ; "5" define(1) ; cancel() = 2 ; value(0) = 1 ; of(1, 0) = 0
            told(5) = 1 ; told(8) = 0
            told(9) = 0 ; begin() ; end() = 0 ; value(0) = 1
            """);
        due("9: THE TAPE stays", "begin() ; \"12\" cancel() = 0 ; told(10) = 2");
        due("9: a ring in it is none", "begin() ; \"#0\" define(0) ; cancel() = 1");
    }

    private static void afterAll() {
        due("512 calls on one object", """
            k=1..255: input(0, k) = 0 ; value(0) = k
            told(5) = 255 ; past(19, 0) = 1
            """);
    }
}
