/** The boundary cases of waves, rings, heights and batches ("Terms", 2), a run of calls for each. */
public final class BoundaryWaveTest {
    private static final Check check = new Check("BoundaryWaveTest");

    public static void main(String[] args) {
        toldAndChanged();
        settled();
        causes();
        equalValues();
        rings();
        ringsFoundAsTheyRun();
        noRings();
        allUndoneByARing();
        runs();
        heights();
        below();
        batches();
        batchesOfOne();
        batchesAsAhead();
        check.end();
    }

    private static void due(String sentence, String lines) {
        Lines.run(check, sentence, lines);
    }

    private static void toldAndChanged() {
        due("perhaps none: an empty BATCH", """
            input(0, 1) ; "#0" define(1) ; begin() ; end() = 0
            told(5) = 3 ; told(2) = 0 ; told(3) = 0 ; past(0, 0) = 0 ; past(0, 1) = 0 ; past(0, 2) = 0
            past(0, 3) = 0
            of(1, 6) = 0 ; of(1, 7) = 0 ; of(1, 8) = -5 ; of(1, 3) = 1
            """);
        due("perhaps none: n 0", """
            list(0, 0) ; "5" define(1) = 1 ; told(2) = 1 ; pour(0, 0, 0, 0) = 0 ; told(5) = 2 ; told(2) = 0
            past(0, 0) = 0
            """);
        due("CHANGED, if their VALUE is otherwise: an INPUT", """
            input(0, 5) ; told(3) = 1 ; input(0, 5) ; told(3) = 0 ; of(0, 6) = 0 ; input(0, 6) ; told(3) = 1
            of(0, 6) = 1
            input(0, MAX) ; input(0, MIN) ; of(0, 6) = 1 ; input(0, MIN) ; of(0, 6) = 0
            input(0, 0) ; input(0, 4294967296) ; of(0, 6) = 1
            """);
        due("CHANGED, if their VALUE is otherwise: ABSENT", """
            drop(0) ; told(3) = 0 ; input(0, 0) ; told(3) = 1 ; drop(0) ; told(3) = 1 ; drop(0) ; told(3) = 0
            "#9" define(0) = 1 ; told(3) = 0 ; drop(0) ; told(3) = 0
            input(0, 7) ; drop(0) ; told(3) = 1 ; drop(0) ; told(3) = 0 ; "#9" define(0) = 1 ; told(3) = 0 ; drop(0)
            told(3) = 0
            """);
        due("CHANGED, if their VALUE is otherwise: a FORMULA that is told", """
            input(0, 5) ; "2+3" define(0) = 1 ; told(3) = 0 ; of(0, 7) = 1 ; "1/0" define(0) = 1 ; told(3) = 1
            "0/0" define(0) = 1 ; told(3) = 0 ; "#9" define(0) = 1 ; told(3) = 1 ; input(0, 3) ; told(3) = 1
            """);
        due("CHANGED: an ERROR hides no number", """
            input(0, 7) ; "#0/#1" define(2) ; input(1, 0) ; input(0, 8) ; of(2, 1) = 2 ; of(2, 6) = 0 ; of(2, 7) = 1
            """);
        due("those told as INPUTS are SETTLED, none of them RUNS", """
            "1" define(0) ; begin() ; input(0, 2) ; input(1, 3) ; drop(2) ; end() = 0 ; told(2) = 0 ; past(0, 0) = 3
            """);
    }

    private static void settled() {
        due("FORMULAS told RUN", """
            "5" define(0) = 1 ; "5" define(0) = 1 ; copy(0, 0) = 1 ; of(0, 7) = 1 ; of(0, 8) = -5 ; of(0, 6) = 0
            """);
        due("if none is CHANGED, it stays as it is", """
            input(0, 1) ; "#0" define(1) ; input(9, 9) = 0 ; of(1, 7) = 0 ; of(1, 6) = 0 ; of(1, 3) = 1
            reads(1) = "0"
            """);
        due("its READS are SETTLED, one by one, until one is CHANGED", """
            input(0, 1) ; input(1, 1) ; "#0" define(5) ; "#5?#1:7" define(4)
            begin() ; input(0, 0) ; input(1, 2) ; end() = 2 ; of(4, 8) = 5 ; reads(4) = "5" ; value(4) = 7
            """);
        due("those behind it aren't SETTLED by it", """
            input(0, 1) ; input(1, 2) ; "1?2:3" define(2) ; "#0?@#1:7" define(3) = 1 ; reads(3) = "0 1 2"
            begin() ; input(0, 0) ; "#3" define(2) ; end() = 2 ; value(3) = 7 ; value(2) = 7 ; of(3, 2) = 1
            of(2, 2) = 2
            """);
        due("a CELL that it comes to is SETTLED first", """
            input(9, 1) ; "#9+1" define(20) ; "#9*#20" define(0) = 1 ; input(9, 5) = 2 ; value(0) = 30 ; of(0, 8) = 9
            """);
        due("nothing sees a VALUE that is half new", """
            input(9, 1) ; "#9" define(1) ; "-#9" define(2) ; "#1+#2" define(0) ; "#0/#0" define(3)
            watch(0, 0, 0) ; input(9, 8) = 3 ; value(0) = 0 ; told(7) = 0 ; of(3, 3) = 1
            """);
        due("in a WAVE all FORMULAS are SETTLED, each once", """
            input(0, 1) ; "#0" define(1) ; "#0+#1" define(2) ; "#0+#1+#2" define(3) ; "#0+#1+#2+#3" define(4)
            input(0, 2) = 4 ; value(4) = 16 ; of(4, 3) = 2
            """);
    }

    private static void causes() {
        due("that one is its CAUSE: the first READ that is CHANGED", """
            input(0, 1) ; input(1, 1) ; input(2, 1) ; "#2+#0+#1" define(3)
            begin() ; input(0, 5) ; input(1, 5) ; end() = 1 ; of(3, 8) = 0
            begin() ; input(0, 6) ; input(1, 6) ; input(2, 6) ; end() = 1 ; of(3, 8) = 2
            begin() ; input(0, 6) ; input(1, 7) ; input(2, 6) ; end() = 1 ; of(3, 8) = 1
            """);
        due("CAUSE: none of one that was told, and of one that didn't RUN", """
            input(0, 1) ; "#0" define(1) ; of(1, 8) = -5 ; "#1" define(2) ; of(1, 8) = -5
            begin() ; input(0, 2) ; "#0+1" define(1) ; end() = 2 ; of(1, 8) = -5 ; of(2, 8) = 1 ; of(0, 8) = -5
            """);
        due("CAUSE: a CELL that became ABSENT", "input(0, 1) ; \"#0\" define(1) ; drop(0) = 1 ; of(1, 8) = 0");
        due("CAUSE: CELL 0 is not none", """
            input(0, 1) ; "#0" define(1) ; input(0, 2) ; of(1, 8) = 0 ; why(1) = "0"
            """);
    }

    private static void equalValues() {
        due("equal values stop a WAVE", """
            input(0, 3) ; "#0>0" define(1) ; "#1" define(2) ; "#2" define(3)
            input(0, 9) = 1 ; told(3) = 1 ; input(0, 0) = 3 ; input(0, -1) = 1 ; of(2, 3) = 2
            """);
        due("equal ERRORS stop a WAVE", """
            input(0, 0) ; "1/#0" define(1) ; "!#1" define(2) ; input(0, 1) = 2 ; input(0, 0) = 2
            drop(0) = 2 ; of(1, 1) = 3 ; of(2, 6) = 0 ; "0" define(0) = 3 ; of(1, 1) = 2
            """);
        due("another ERROR is CHANGED", """
            input(0, 0) ; "1/#0" define(1) ; "#1" define(2) ; drop(0) = 2 ; of(2, 1) = 3 ; of(2, 6) = 1
            """);
        due("a FORMULA that becomes what it was", """
            input(0, 4) ; "#0" define(1) ; freeze(1) = 0 ; told(3) = 0 ; "4" define(1) = 1 ; told(3) = 0
            """);
    }

    private static void rings() {
        due("A RING: of one", """
            "#0" define(0) = -7 ; of(0, 0) = 0 ; "@0" define(0) = -7 ; "s0-0" define(0) = -7 ; "!#0" define(0) = -7
            "0*#0" define(0) = -7 ; "1?#0:2" define(0) = -7 ; told(5) = 0 ; "#31" define(31) = -7
            """);
        due("A RING: of two", "\"#1\" define(0) = 1 ; \"#0\" define(1) = -7 ; of(1, 0) = 0 ; \"#0\" define(2) = 1");
        due("A RING: of all", """
            k=0..31: of(k, 0) = 0
            begin()
            "#1" define(0) ; "#2" define(1) ; "#3" define(2) ; "#4" define(3) ; "#5" define(4) ; "#6" define(5)
            "#7" define(6) ; "#8" define(7) ; "#9" define(8)
            k=9..30: copy(0, k) = -3
            end() = 9
            k=9..30: copy(8, k) = 1
            of(0, 2) = 31 ; told(12) = 31 ; "#0" define(31) = -7 ; of(0, 3) = 1 ; value(0) = NO
            """);
        due("A RING: by copy()", """
            "#1" define(0) ; "#1" define(2) ; copy(0, 1) = -7 ; of(1, 0) = 0
            """);
        due("A RING: by pour()", """
            list(0, 1) ; set(0, 0, 1) ; input(0, 5) ; "@#0" define(1) = 1 ; pour(0, 0, 0, 1) = -7 ; value(0) = 5
            """);
        due("A RING: by end()", """
            begin() ; "#1" define(0) = 0 ; "#0" define(1) = 0 ; end() = -7 ; told(8) = 0 ; told(5) = 0 ; told(1) = 0
            """);
    }

    private static void ringsFoundAsTheyRun() {
        due("A RING: by input()", """
            input(0, 2) ; "@#0" define(1) ; input(0, 1) = -7 ; value(0) = 2
            """);
        due("A RING: by input(), of two", """
            input(0, 5) ; "@#0" define(1) ; "#1" define(2) ; input(0, 2) = -7 ; value(0) = 5 ; reads(1) = "0 5"
            input(0, 3) = 1
            """);
        due("A RING: by drop()", """
            input(0, 1) ; "!#0?#2:5" define(1) ; "#1" define(2) ; drop(0) = -7 ; value(0) = 1 ; value(2) = 5
            of(0, 0) = 1
            """);
        due("A RING: also where an ERROR would be without it", "\"#9+#0\" define(0) = 1 ; \"!#9+#0\" define(0) = -7");
        due("A RING: also by what it read when it ran last", """
            input(0, 1) ; "5" define(2) ; "#0?#2:7" define(1) = 1 ; "#1" define(2) = -7 ; value(2) = 5
            reads(1) = "0 2"
            """);
    }

    private static void noRings() {
        due("no RING: what isn't come to", """
            "1?2:#0" define(0) = 1 ; "0?#0:2" define(0) = 1 ; "1/0+#0" define(0) = 1 ; "l(#9,#0)" define(0) = 1
            "s9-10" define(9) = -7 ; "s8-10" define(9) = 1 ; of(9, 1) = 3
            """);
        due("no RING: what it READ when it was told otherwise", """
            "#1" define(0) ; "5" define(0) ; "#0" define(1) = 1 ; value(1) = 5
            """);
        due("no RING: turned round in a BATCH", """
            input(2, 4) ; "#1" define(0) ; "#2" define(1) ; value(0) = 4
            begin() ; "#0" define(1) ; "#2" define(0) ; end() = 2 ; value(1) = 4 ; of(1, 2) = 2 ; of(0, 2) = 1
            """);
        due("no RING: turned round by what is read first", """
            input(0, 1) ; "#0?5:#2" define(1) ; "#0?#1:6" define(2) ; value(2) = 5
            input(0, 0) = 2 ; value(2) = 6 ; value(1) = 6 ; of(1, 2) = 2 ; of(2, 2) = 1 ; input(0, 1) = 2
            of(1, 2) = 1
            """);
        due("no RING: an INPUT, or ABSENT", """
            "#1" define(0) ; input(1, 5) = 1 ; drop(1) = 1 ; "#1" define(0) = 1 ; of(1, 9) = 1
            """);
    }

    private static void allUndoneByARing() {
        String ahead = """
            input(0, 5) ; input(3, 1) ; "@#0" define(1) ; "#1+#3" define(2) ; watch(0, 0, 0) ; watch(2, 0, 0)
            list(0, 2) ; set(0, 0, 2) ; input(5, 40) = 2
            """;
        String behind = """
            value(0) = 5 ; value(1) = 40 ; value(2) = 41 ; told(0) = 3 ; told(1) = 2 ; told(2) = 2 ; told(3) = 3
            told(4) = 4
            told(5) = 5 ; told(6) = 2 ; told(7) = 1 ; told(12) = 2 ; past(0, 0) = 1 ; past(0, 1) = 2 ; past(0, 3) = 1
            of(0, 6) = 0 ; of(1, 6) = 1 ; of(1, 7) = 1 ; of(1, 8) = 5 ; of(2, 8) = 1 ; of(1, 3) = 2 ; of(2, 3) = 2
            reads(1) = "0 5" ; reads(2) = "1 3" ; why(2) = "1 5" ; readers(5) = 2 ; order() = "0 3 5 1 2"
            spelling(1) = "@#0"
            log(0, 0) = 1 ; logged(0, 1) = 41 ; log(1, 0) = -1 ; told(8) = 0 ; told(9) = 0 ; told(10) = 0
            input(5, 41) = 2 ; value(2) = 42 ; past(0, 0) = 1
            """;
        due("all is as ahead: input()", ahead + "input(0, 2) = -7\n" + behind);
        due("all is as ahead: define()", ahead + "\"#2\" define(5) = -7\n" + behind);
        due("all is as ahead: pour()", ahead + "pour(0, 0, 0, 1) = -7\n" + behind);
        due("all is as ahead: end()", ahead + "begin() ; drop(3) ; drop(9) ; input(0, 2) ; end() = -7\n" + behind);
        due("all is as ahead: would()", ahead + "would(0, 2) = -7\n" + behind);
        due("all is as ahead: whatIf()", ahead + "whatIf(0, 2, 2) = NO\n" + behind);
        due("all is as ahead: seek()", ahead + "seek(0, 1, 3, 5, 99) = NO\n" + behind);
    }

    private static void runs() {
        due("RUNS: how often it RAN since it was told", """
            input(0, 0) ; "#0" define(1) ; of(1, 3) = 1
            k=1..20: input(0, k) = 1 ; of(1, 3) = k+1
            "#0" define(1) ; of(1, 3) = 1 ; input(0, 50) ; of(1, 3) = 2 ; copy(1, 1) = 1 ; of(1, 3) = 1
            copy(1, 2) = 1 ; of(2, 3) = 1 ; freeze(1) ; of(1, 3) = 0 ; told(4) = 1
            """);
        due("RUNS: a refused telling leaves them", """
            input(0, 0) ; "#0" define(1) ; input(0, 1) ; "#1" define(1) = -7 ; of(1, 3) = 2 ; "#" define(1) = -101
            of(1, 3) = 2
            """);
    }

    private static void heights() {
        due("HEIGHT: 0 of an INPUT, and ABSENT", """
            input(0, 1) ; of(0, 2) = 0 ; of(1, 2) = 0 ; "#0" define(2) ; drop(2) ; of(2, 2) = 0 ; told(12) = 0
            """);
        due("HEIGHT: 1, if there are none", "\"5\" define(0) ; of(0, 2) = 1 ; \"#9\" define(1) ; of(1, 2) = 1");
        due("HEIGHT: 1 more than the greatest", """
            "1" define(0) ; "#0" define(1) ; "#1" define(2) ; "#0+#2+#1" define(3) ; of(3, 2) = 4 ; "#2+#0" define(3)
            of(3, 2) = 4
            "#0+#2" define(3) ; of(3, 2) = 4 ; told(12) = 4
            """);
        due("HEIGHT: of its READS as they are, though it didn't RUN", """
            "1" define(0) ; "#0" define(1) ; "#1" define(2) ; input(0, 1) = 0 ; of(2, 2) = 2 ; of(1, 2) = 1
            "1*#9" define(9) = -7 ; "!#8" define(0) = 1 ; of(2, 2) = 3 ; of(2, 3) = 1 ; "#30" define(8) = 1
            of(2, 2) = 4
            """);
        due("HEIGHT: 32 at most", """
            "1" define(31) ; "#31" define(30) ; "#30" define(29)
            k=0..28: copy(29, 28-k) = 1
            of(0, 2) = 32 ; told(12) = 32 ; order(0) = 31 ; order(31) = 0 ; order(32) = -1 ; of(31, 9) = 31
            value(0) = 1
            way(31, 0, -1) = 31 ; way(31, 0, 31) = 0 ; way(31, 0, 32) = -1 ; input(31, 2) = 31 ; why(0, 30) = 31
            why(0, 31) = -1
            """);
    }

    private static void below() {
        due("BELOW: those that READ it, and those BELOW these", """
            input(0, 1) ; "#0" define(1) ; "#1" define(2) ; "#2+#0" define(3)
            of(0, 9) = 3 ; of(1, 9) = 2 ; of(2, 9) = 1 ; of(3, 9) = 0 ; of(0, 5) = 2
            """);
        due("BELOW: also of a higher number on to a lower one", """
            input(31, 1) ; "#31" define(30) ; "#30" define(2) ; "#2" define(20) ; "#20" define(1) ; of(31, 9) = 4
            of(1, 9) = 0
            """);
        due("BELOW: an ABSENT one", "\"#5\" define(0) ; \"#0\" define(1) ; of(5, 9) = 2 ; of(5, 5) = 1");
    }

    private static void batches() {
        due("of what is told of one CELL the latest counts", """
            begin() ; input(0, 1) ; input(0, 2) ; told(9) = 1 ; "5" define(0) ; drop(0) ; told(9) = 1 ; input(0, 3)
            end() = 0 ; value(0) = 3 ; past(0, 0) = 1
            begin() ; "#9" define(1) ; drop(1) ; end() = 0 ; of(1, 0) = 0 ; begin() ; drop(0) ; "7" define(0)
            end() = 1 ; value(0) = 7
            """);
        due("a ring that is told away is none", """
            begin() ; "#0" define(0) = 0 ; input(0, 4) = 0 ; end() = 0 ; value(0) = 4
            """);
        due("all at once", """
            input(0, 1) ; "#0*10" define(1) ; watch(1, 0, 0)
            begin() ; input(0, 2) ; input(0, 3) ; end() = 1 ; told(7) = 1 ; logged(0, 0) = 10 ; logged(0, 1) = 30
            told(5) = 3
            """);
        due("all 32 CELLS", """
            begin()
            k=0..31: input(k, k) = 0 ; told(9) = k+1
            end() = 0 ; past(0, 0) = 32 ; past(0, 2) = 32 ; told(0) = 32
            """);
    }

    private static void batchesOfOne() {
        due("what is told within a BATCH is answered 0", """
            input(0, 1) ; "#0" define(1) ; begin() ; input(0, 2) = 0 ; "#0" define(2) = 0 ; drop(3) = 0
            copy(1, 4) = 0
            freeze(1) = 0 ; told(9) = 5 ; end() = 2
            """);
        due("if nothing is refused", """
            input(0, 1) ; "1/0" define(1) ; "#0" define(2) ; begin()
            input(32, 2) = -1 ; define(-1) = -1 ; define(0) = -100 ; "#" define(0) = -101 ; drop(32) = -1
            copy(32, 0) = -1
            copy(0, 1) = -3 ; copy(2, 1) = -2 ; freeze(-1) = -1 ; freeze(0) = -3 ; freeze(1) = -3 ; begin() = -3
            told(9) = 0 ; end() = 0 ; past(0, 0) = 0
            """);
        due("a refused one leaves what was told of its CELL", """
            begin() ; input(0, 4) ; "1+" define(0) = -102 ; freeze(0) = -3 ; told(9) = 1 ; end() = 0 ; value(0) = 4
            """);
    }

    private static void batchesAsAhead() {
        due("till then all that is asked is as ahead of it", """
            input(0, 1) ; "#0+1" define(1) ; begin() ; input(0, 9) ; drop(1) ; "8" define(2)
            value(0) = 1 ; value(1) = 2 ; of(1, 0) = 2 ; of(2, 0) = 0 ; reads(1) = "0" ; readers(0) = 2
            order() = "0 1"
            why(1) = "" ; way(0, 1) = "0 1" ; whatIf(0, 5, 1) = 6 ; would(0, 5) = 1 ; seek(0, 3, 5, 1, 6) = 5
            spelling(1) = "#0+1" ; spell(2) = -3 ; told(0) = 1 ; told(1) = 1 ; told(5) = 2 ; past(0, 0) = 1
            list(0, 3) ; fill(0, 0, 0, 3) = 3 ; get(0, 0) = 1 ; get(0, 1) = 2 ; get(0, 2) = NO+3
            end() = 1 ; value(0) = 9 ; of(1, 0) = 0 ; value(2) = 8
            """);
        due("what copy() looks at, too", """
            "7" define(0) ; begin() ; "8" define(0) ; copy(0, 1) = 0 ; drop(0) ; copy(0, 2) = 0 ; "9" define(5)
            copy(5, 6) = -3
            end() = 3 ; value(1) = 7 ; value(2) = 7 ; of(0, 0) = 0 ; value(5) = 9
            """);
        due("what freeze() looks at, too", """
            "7" define(0) ; begin() ; "8" define(0) ; "5" define(1) ; freeze(1) = -3 ; freeze(0) = 0 ; end() = 1
            value(0) = 7 ; of(0, 0) = 1 ; value(1) = 5
            """);
        due("a BATCH behind a BATCH", """
            begin() ; input(0, 1) ; end() = 0 ; begin() ; told(9) = 0 ; input(1, 1) ; end() = 0 ; past(0, 0) = 1
            """);
    }
}
