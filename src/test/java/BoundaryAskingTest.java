/** The boundary cases of promises 12 to 21: each sentence of theirs that names one has a run of its own. */
public final class BoundaryAskingTest {
    private static final Check check = new Check("BoundaryAskingTest");

    /** 0 and 1 are inputs, 2 to 5 a stair of formulas, 6 an ERROR; 0 was told last. */
    private static final String STAIR = """
        input(0, 2) ; input(1, 3) ; "#0+#1" define(2) ; "#2*#0" define(3) ; "#3+#2" define(4) ; "#4+1" define(5)
        "#5/#9" define(6) ; input(0, 4) = 5
        """;

    public static void main(String[] args) {
        value();
        of();
        ofEach();
        reads();
        readers();
        order();
        why();
        way();
        wayOfSeveral();
        whatIf();
        would();
        seek();
        seekEnds();
        check.end();
    }

    private static void due(String sentence, String lines) {
        Lines.run(check, sentence, lines);
    }

    private static void value() {
        due("12: NO: no such CELL", """
            value(-1) = NO ; value(32) = NO ; value(IMAX) = NO ; value(IMIN) = NO ; value(64) = NO
            """);
        due("12: NO: an ERROR", """
            input(0, MAX) ; "#0+1" define(1) ; "1/0" define(2) ; "#9" define(3) ; value(1) = NO ; value(2) = NO
            value(3) = NO ; value(9) = NO
            """);
        due("12: the number", """
            input(0, 0) ; value(0) = 0 ; input(0, -1) ; value(0) = -1 ; input(31, MAX) ; value(31) = MAX
            input(31, MIN) ; value(31) = MIN
            """);
        due("12: of what was an ERROR", """
            "1/0" define(0) ; "#0" define(1) ; input(0, 0) ; value(0) = 0 ; value(1) = 0 ; drop(0) ; value(1) = NO
            """);
    }

    private static void of() {
        due("13: NONE: cell", "k=0..9: of(-1, k) = -1 ; of(32, k) = -1 ; of(IMAX, k) = -1 ; of(IMIN, k) = -1");
        due("13: NONE: what", """
            of(0, -1) = -1 ; of(0, 10) = -1 ; of(0, IMAX) = -1 ; of(0, IMIN) = -1 ; of(32, 10) = -1
            """);
        due("13: of an ABSENT one", "of(31, 0) = 0 ; of(31, 1) = 3 ; of(31, 2) = 0 ; of(31, 3) = 0 ; of(31, 8) = -5");
        due("13: of an INPUT", """
            input(31, 0)
            of(31, 0) = 1 ; of(31, 1) = 0 ; of(31, 2) = 0 ; of(31, 3) = 0 ; of(31, 4) = 0 ; of(31, 6) = 1
            of(31, 7) = 0 ; of(31, 8) = -5
            """);
        due("13: of a FORMULA", """
            "1" define(31)
            of(31, 0) = 2 ; of(31, 1) = 0 ; of(31, 2) = 1 ; of(31, 3) = 1 ; of(31, 4) = 0 ; of(31, 6) = 1
            of(31, 7) = 1 ; of(31, 8) = -5
            """);
    }

    private static void ofEach() {
        due("13: 1 its ERROR (0: a number)", """
            input(0, 0) ; of(0, 1) = 0 ; input(0, MAX) ; "1+#0" define(1) ; of(1, 1) = 1 ; "0/0" define(1)
            of(1, 1) = 2 ; "#5" define(1) ; of(1, 1) = 3
            """);
        due("13: 3 RUNS (0: no FORMULA)", STAIR + """
            of(0, 3) = 0 ; of(9, 3) = 0 ; of(2, 3) = 2 ; of(6, 3) = 2 ; input(2, 1) ; of(2, 3) = 0
            """);
        due("13: 4 how many READS", STAIR + """
            of(2, 4) = 2 ; of(0, 4) = 0 ; of(9, 4) = 0 ; "#0+#0" define(7) ; of(7, 4) = 1 ; "1" define(7)
            of(7, 4) = 0
            """);
        due("13: 5 how many CELLS READ it", STAIR + """
            of(0, 5) = 2 ; of(2, 5) = 2 ; of(9, 5) = 1 ; of(6, 5) = 0 ; "#0+#0" define(7) ; of(0, 5) = 3
            """);
        due("13: 6 1 it was CHANGED in the latest WAVE", STAIR + """
            of(0, 6) = 1 ; of(1, 6) = 0 ; of(5, 6) = 1 ; of(6, 6) = 0 ; input(0, 4) ; of(0, 6) = 0 ; of(5, 6) = 0
            """);
        due("13: 7 1 it RAN in that", STAIR + """
            of(0, 7) = 0 ; of(2, 7) = 1 ; of(6, 7) = 1 ; input(31, 1) ; of(2, 7) = 0 ; input(2, 1) ; of(2, 7) = 0
            of(3, 7) = 1
            """);
        due("13: 8 its CAUSE (-5: none)", STAIR + """
            of(0, 8) = -5 ; of(2, 8) = 0 ; of(3, 8) = 2 ; of(4, 8) = 3 ; of(6, 8) = 5 ; input(0, 4) ; of(2, 8) = -5
            """);
        due("13: 9 how many are BELOW it", STAIR + """
            of(0, 9) = 5 ; of(1, 9) = 5 ; of(9, 9) = 1 ; of(6, 9) = 0 ; of(5, 9) = 1 ; of(31, 9) = 0
            """);
        due("13: 9 how many are BELOW it: each once, 31 at most", """
            input(0, 0) ; "#0" define(1)
            k=2..31: "#1+#0" define(k)
            of(0, 9) = 31 ; of(0, 5) = 31 ; of(1, 9) = 30
            """);
    }

    private static void reads() {
        due("14: NONE: cell", STAIR + """
            reads(-1, 0) = -1 ; reads(32, 0) = -1 ; reads(IMAX, 0) = -1 ; reads(IMIN, 0) = -1
            """);
        due("14: NONE: i", STAIR + """
            reads(2, 0) = 0 ; reads(2, 1) = 1 ; reads(2, 2) = -1 ; reads(2, -1) = -1 ; reads(2, IMAX) = -1
            reads(2, IMIN) = -1
            reads(2, 32) = -1 ; reads(0, 0) = -1 ; reads(9, 0) = -1
            """);
        due("14: none of a FORMULA any more", "\"#1\" define(0) ; reads(0, 0) = 1 ; input(0, 1) ; reads(0, 0) = -1");
        due("14: the next CELL's READS are its own", """
            "#31" define(0) ; "#30" define(1) ; reads(0, 32) = -1 ; reads(1, 0) = 30 ; reads(0, 1) = -1
            """);
    }

    private static void readers() {
        due("15: NO", "readers(-1) = NO ; readers(32) = NO ; readers(IMAX) = NO ; readers(IMIN) = NO");
        due("15: none", "readers(0) = 0 ; input(0, 1) ; readers(0) = 0 ; readers(31) = 0");
        due("15: bits: the first, the last", """
            "#5" define(0) ; readers(5) = 1 ; "#5" define(31) ; readers(5) = 2147483649 ; drop(0)
            readers(5) = 2147483648
            """);
        due("15: bits: all others", "k=1..31: \"#0\" define(k)\nreaders(0) = 4294967294");
        due("15: not those BELOW these", STAIR + "readers(0) = 12 ; readers(5) = 64 ; readers(9) = 64");
    }

    private static void order() {
        due("16: NONE", """
            order(0) = -1 ; input(5, 1) ; order(0) = 5 ; order(1) = -1 ; order(-1) = -1 ; order(IMAX) = -1
            order(IMIN) = -1
            """);
        due("16: all CELLS but ABSENT ones", STAIR + """
            order() = "0 1 2 3 4 5 6" ; drop(0) ; order() = "1 2 3 4 5 6"
            """);
        due("16: by HEIGHTS, then by numbers", """
            input(31, 1) ; "#31" define(2) ; "#31" define(1) ; "#2" define(0) ; input(30, 1) ; "5" define(3)
            order() = "30 31 1 2 3 0"
            """);
        due("16: 32", "k=0..31: input(k, 1)\nk=0..31: order(k) = k\norder(32) = -1");
    }

    private static void why() {
        due("17: NONE: cell", STAIR + "why(-1, 0) = -1 ; why(32, 0) = -1 ; why(IMAX, 0) = -1 ; why(IMIN, 0) = -1");
        due("17: NONE: i", STAIR + """
            why(5) = "4 3 2 0" ; why(5, 4) = -1 ; why(5, -1) = -1 ; why(5, IMAX) = -1 ; why(5, IMIN) = -1
            why(5, 32) = -1
            """);
        due("17: NONE: it didn't RUN", STAIR + """
            why(0, 0) = -1 ; why(9, 0) = -1 ; why(31, 0) = -1 ; input(31, 1) ; why(5, 0) = -1 ; why(2, 0) = -1
            """);
        due("17: NONE: it was told", STAIR + """
            "#2*2" define(3) ; why(3, 0) = -1 ; why(4) = "3" ; why(5) = "4 3"
            """);
        due("17: in a BATCH: of the latest WAVE", STAIR + """
            begin() ; input(1, 9) ; why(2) = "0" ; end() ; why(2) = "1"
            """);
    }

    private static void way() {
        due("18: NONE: cells", STAIR + """
            way(-1, 0, 0) = -1 ; way(32, 0, 0) = -1 ; way(0, -1, 0) = -1 ; way(0, 32, 0) = -1
            way(IMAX, IMIN, 0) = -1
            """);
        due("18: NONE: i below -1", STAIR + "way(0, 5, -2) = -1 ; way(0, 5, IMIN) = -1 ; way(5, 0, -2) = -1");
        due("18: i -1: how many steps", STAIR + """
            way(0, 5, -1) = 3 ; way(5, 5, -1) = 0 ; way(9, 6, -1) = 1 ; way(31, 31, -1) = 0
            """);
        due("18: -5: there is none", STAIR + """
            way(5, 0, -1) = -5 ; way(5, 0, 0) = -5 ; way(5, 0, IMAX) = -5 ; way(0, 1, 0) = -5 ; way(31, 0, 1) = -5
            way(0, 31, -1) = -5
            """);
        due("18: NONE: it has no i-th", STAIR + """
            way(0, 5) = "0 3 4 5" ; way(0, 5, 4) = -1 ; way(0, 5, IMAX) = -1 ; way(7, 7, 1) = -1 ; way(0, 5, 32) = -1
            """);
        due("18: or the same", STAIR + """
            way(0, 0, 0) = 0 ; way(5, 5, 0) = 5 ; way(31, 31, 0) = 31 ; way(0, 0) = "0"
            """);
        due("18: only by what it READ when it ran last", """
            input(0, 1) ; "#0?1:#5" define(1) ; way(5, 1, -1) = -5 ; input(0, 0) ; way(5, 1) = "5 1"
            """);
    }

    private static void wayOfSeveral() {
        due("18: with the fewest steps", """
            input(0, 1) ; "#0" define(1) ; "#1" define(2) ; "#2+#1+#0" define(3) ; way(0, 3) = "0 3"
            way(1, 3) = "1 3"
            """);
        due("18: found going back: READS in their order", """
            input(0, 1) ; "#0" define(1) ; "#0" define(2) ; "#2+#1" define(3) ; way(0, 3) = "0 2 3"
            "#1+#2" define(3) ; way(0, 3) = "0 1 3"
            """);
        due("18: CELLS are met in turn", """
            input(0, 1) ; "#0" define(1) ; "#0" define(2) ; "#1" define(3) ; "#2" define(4) ; "#4+#3" define(5)
            way(0, 5) = "0 2 4 5"
            "#3+#4" define(5) ; way(0, 5) = "0 1 3 5"
            """);
        due("18: each by that one from which it was met", """
            input(0, 1) ; "#0" define(9) ; "#9" define(1) ; "#9" define(2) ; "#2+#1" define(3) ; "#1" define(4)
            "#4+#3" define(5)
            way(0, 5) = "0 9 1 4 5" ; way(9, 5, -1) = 3 ; way(1, 5) = "1 4 5" ; way(2, 5) = "2 3 5"
            """);
    }

    private static void whatIf() {
        due("19: NO: cells", """
            input(0, 1) ; whatIf(-1, 1, 0) = NO ; whatIf(32, 1, 0) = NO ; whatIf(0, 1, -1) = NO
            whatIf(0, 1, 32) = NO ; whatIf(IMAX, 1, IMIN) = NO
            """);
        due("19: NO: an ERROR", """
            "1/#0" define(1) ; whatIf(0, 0, 1) = NO ; whatIf(0, 1, 1) = 1 ; whatIf(0, 1, 9) = NO
            """);
        due("19: NO: a RING", """
            input(0, 5) ; "@#0" define(1) ; whatIf(0, 1, 0) = NO ; whatIf(0, 1, 5) = NO ; whatIf(0, 0, 1) = 0
            value(0) = 5
            """);
        due("19: itself", """
            whatIf(31, MAX, 31) = MAX ; whatIf(31, MIN, 31) = MIN ; whatIf(31, 0, 31) = 0 ; of(31, 0) = 0
            """);
        due("19: a FORMULA, an ABSENT one as an INPUT", STAIR + """
            whatIf(2, 0, 3) = 0 ; whatIf(9, 1, 6) = 36 ; whatIf(9, 0, 6) = NO ; whatIf(5, 7, 2) = 7
            spelling(2) = "#0+#1"
            """);
        due("19: not the watchers, not THE LOG, no WAVE", STAIR + """
            watch(5, 0, 0) ; whatIf(0, 9, 5) = 121 ; told(7) = 0 ; told(5) = 8 ; told(2) = 5 ; of(5, 8) = 4
            of(5, 3) = 2 ; past(0, 1) = 5
            """);
    }

    private static void would() {
        due("20: NONE", "would(-1, 1) = -1 ; would(32, 1) = -1 ; would(IMAX, 1) = -1 ; would(IMIN, 1) = -1");
        due("20: RING", """
            input(0, 5) ; "@#0" define(1) ; would(0, 1) = -7 ; would(0, 0) = 1 ; told(5) = 2 ; value(0) = 5
            reads(1) = "0 5"
            """);
        due("20: how many would RUN", STAIR + """
            would(0, 4) = 0 ; would(0, 5) = 5 ; would(31, 1) = 0 ; would(9, 1) = 1 ; would(2, 7) = 0 ; would(2, 8) = 4
            would(6, 1) = 0
            """);
        due("20: nothing is kept", STAIR + """
            would(0, 5) = 5 ; value(0) = 4 ; told(2) = 5 ; told(4) = 10 ; told(5) = 8 ; of(2, 8) = 0 ; would(0, 5) = 5
            """);
    }

    private static void seek() {
        due("21: NO: cells", """
            input(0, 1) ; seek(-1, 1, 1, 0, 0) = NO ; seek(32, 1, 1, 0, 0) = NO ; seek(0, 1, 1, -1, 0) = NO
            seek(0, 1, 1, 32, 0) = NO
            """);
        due("21: NO: n (0 .. 12)", """
            seek(0, 1, -1, 0, 0) = NO ; seek(0, 1, 13, 0, 0) = NO ; seek(0, 1, IMAX, 0, 0) = NO
            seek(0, 1, IMIN, 0, 0) = NO
            seek(0, 1, 0, 0, 0) = NO ; seek(0, 1, 1, 0, 0) = 1 ; seek(0, 1, 12, 0, 12) = 12
            seek(0, 1, 12, 0, 13) = NO
            seek(0, 1, 11, 0, 12) = NO
            """);
        due("21: the first v", """
            seek(0, 5, 12, 0, 3) = 5 ; seek(0, 5, 12, 0, 5) = 5 ; seek(0, 5, 12, 0, 6) = 6 ; "#0*#0" define(1)
            seek(0, -5, 12, 1, 25) = -5 ; seek(0, -4, 12, 1, 25) = 5
            """);
        due("21: not below a goal", """
            "#0/3" define(1) ; seek(0, 0, 12, 1, 3) = 9 ; seek(0, 0, 9, 1, 3) = NO ; seek(0, 0, 10, 1, 3) = 9
            seek(0, 0, 12, 1, MIN) = 0 ; seek(0, 0, 12, 1, MAX) = NO
            """);
        due("21: another CELL's VALUE is a number", """
            "1/#0" define(1) ; seek(0, 0, 12, 1, MIN) = 1 ; seek(0, -1, 2, 1, 0) = NO ; seek(0, 5, 3, 9, MIN) = NO
            """);
        due("21: one with which there is a RING is none", """
            input(0, 9) ; input(3, 50) ; "@#0" define(1) ; seek(0, 1, 12, 1, 0) = 3 ; seek(0, 1, 2, 1, MIN) = NO
            seek(0, 1, 1, 0, MIN) = NO
            seek(0, 0, 12, 0, 1) = 2 ; value(0) = 9
            """);
        due("21: nothing is kept", STAIR + """
            seek(0, 0, 12, 5, MAX) = NO ; seek(0, 0, 12, 5, 20) = 3 ; value(0) = 4 ; told(5) = 8 ; told(4) = 10
            of(5, 8) = 4
            """);
    }

    private static void seekEnds() {
        due("21: a v that can't be a long is none", """
            seek(0, MAX, 12, 0, MAX) = MAX ; seek(0, MAX-3, 12, 0, MAX) = MAX ; seek(0, MAX-3, 3, 0, MAX) = NO
            seek(0, MAX-3, 4, 0, MAX) = MAX
            input(1, -1) ; seek(0, MAX, 12, 1, 0) = NO ; seek(0, MAX-11, 12, 0, MAX) = MAX
            seek(0, MAX-12, 12, 0, MAX) = NO
            """);
        due("21: no wrap-around to the least ones", """
            "0-#0" define(1) ; seek(0, MAX-2, 12, 1, 0) = NO ; "#0<0" define(1) ; seek(0, MAX, 12, 1, 1) = NO
            """);
        due("21: from the least long on", """
            seek(0, MIN, 12, 0, MIN+1) = MIN+1 ; seek(0, MIN, 12, 0, MIN+11) = MIN+11
            seek(0, MIN, 12, 0, MIN+12) = NO ; seek(0, MIN, 1, 0, MIN) = MIN
            """);
    }
}
