/** The boundary cases that the words under "Terms" name, a run of calls for each. */
public final class BoundaryTermsTest {
    private static final Check check = new Check("BoundaryTermsTest");

    public static void main(String[] args) {
        face();
        cells();
        values();
        numbers();
        cellNumbers();
        sums();
        at();
        not();
        within();
        factorsElse();
        choices();
        comparing();
        over();
        divided();
        errorsFirst();
        reads();
        check.end();
    }

    private static void due(String sentence, String lines) {
        Lines.run(check, sentence, lines);
    }

    private static void face() {
        check.due("face: NONE", ReactiveSheet.NONE, -1);
        check.due("face: BAD", ReactiveSheet.BAD, -2);
        check.due("face: STATE", ReactiveSheet.STATE, -3);
        check.due("face: FULL", ReactiveSheet.FULL, -4);
        check.due("face: RING", ReactiveSheet.RING, -7);
        check.due("face: NO = Long.MIN_VALUE", ReactiveSheet.NO, Long.MIN_VALUE);
        check.due("face: calls", ReactiveSheet.class.getDeclaredConstructors().length, 1);
    }

    private static void cells() {
        due("CELLS are 0 .. 31", """
            input(-1, 7) = -1 ; input(32, 7) = -1 ; input(IMAX, 7) = -1 ; input(IMIN, 7) = -1
            input(0, 7) = 0 ; input(31, 8) = 0 ; value(0) = 7 ; value(31) = 8
            value(-1) = NO ; value(32) = NO ; value(IMAX) = NO ; value(IMIN) = NO
            told(0) = 2
            """);
        due("CELLS are 0 .. 31: each is one", """
            k=0..31: input(k, k+100) = 0
            k=0..31: value(k) = k+100
            told(0) = 32 ; order(31) = 31 ; order(32) = -1
            """);
        due("ABSENT (at first)", "k=0..31: of(k, 0) = 0 ; of(k, 1) = 3 ; value(k) = NO");
        due("an INPUT, or a FORMULA", """
            input(0, 1) ; "1" define(1) ; of(0, 0) = 1 ; of(1, 0) = 2
            drop(0) ; drop(1) ; of(0, 0) = 0 ; of(1, 0) = 0 ; of(1, 3) = 0
            """);
    }

    private static void values() {
        due("a number (a long)", """
            input(0, MAX) = 0 ; input(1, MIN) = 0 ; value(0) = MAX ; value(1) = MIN ; of(0, 1) = 0 ; of(1, 1) = 0
            "#0" define(2) ; "#1" define(3) ; value(2) = MAX ; value(3) = MIN ; of(3, 1) = 0
            """);
        due("an ERROR: 1 OVER, 2 BY NOUGHT, 3 ABSENT", """
            input(0, MAX) ; "#0+1" define(1) ; "1/0" define(2) ; "#9" define(3)
            of(1, 1) = 1 ; of(2, 1) = 2 ; of(3, 1) = 3 ; value(1) = NO ; value(2) = NO ; value(3) = NO
            """);
        due("VALUE of an ABSENT CELL: ERROR 3", """
            of(5, 1) = 3 ; "#5" define(0) = 1 ; of(0, 1) = 3 ; input(5, 0) = 1 ; of(0, 1) = 0 ; drop(5) = 1
            of(0, 1) = 3
            """);
    }

    private static void numbers() {
        due("a number of 1 to 9 figures: none", "define(0) = -100 ; \"+1\" define(0) = -100");
        due("a number of 1 to 9 figures: one", """
            "0" define(0) = 1 ; value(0) = 0 ; "9" define(0) = 1 ; value(0) = 9
            """);
        due("a number of 1 to 9 figures: nine", """
            "999999999" define(0) = 1 ; value(0) = 999999999 ; "000000000" define(0) = 1 ; value(0) = 0
            "000000001" define(0) = 1 ; value(0) = 1
            """);
        due("a number of 1 to 9 figures: ten", """
            "1000000000" define(0) = -109 ; "0000000000" define(0) = -109 ; "2+1234567890" define(0) = -111
            """);
    }

    private static void cellNumbers() {
        due("#n: n of 1 or 2 figures: none", """
            "#" define(0) = -101 ; "#+" define(0) = -101 ; "#-1" define(0) = -101
            """);
        due("#n: one, two", "\"#9\" define(0) = 1 ; reads(0) = \"9\" ; \"#09\" define(0) = 1 ; reads(0) = \"9\"");
        due("#n: three", "\"#009\" define(0) = -103 ; \"#100\" define(0) = -103 ; \"#319\" define(0) = -103");
        due("#n: 0 .. 31", """
            "#0" define(1) = 1 ; reads(1) = "0" ; "#00" define(1) = 1 ; reads(1) = "0"
            "#31" define(1) = 1 ; reads(1) = "31" ; "#32" define(1) = -101 ; "#99" define(1) = -101 ; reads(1) = "31"
            """);
    }

    private static void sums() {
        due("sn-m: n, m of 1 or 2 figures: none", """
            "s" define(0) = -101 ; "s-1" define(0) = -101 ; "s1" define(0) = -102 ; "s1-" define(0) = -103
            "s1+2" define(0) = -102 ; "s1-+" define(0) = -103
            """);
        due("sn-m: three", """
            "s001-2" define(0) = -103 ; "s1-002" define(0) = -103 ; "s01-020" define(0) = -106
            """);
        due("sn-m: 0 .. 31", """
            "s1-31" define(0) = 1 ; "s31-31" define(0) = 1 ; "s0-0" define(1) = 1 ; "s01-09" define(10) = 1
            "s32-32" define(0) = -101 ; "s1-32" define(0) = -103 ; "s31-32" define(0) = -104
            "s99-1" define(0) = -101
            """);
        due("sn-m: all of them", """
            "s0-31" define(31) = 1 ; reads(31) = "0" ; of(31, 1) = 3 ; "s0-31" define(0) = -7
            """);
        due("sn-m: m not below n", """
            "s5-4" define(0) = -103 ; "s10-9" define(0) = -104 ; "s1-0" define(0) = -103 ; "s31-30" define(0) = -104
            "s5-5" define(0) = 1 ; "s5-6" define(0) = 1 ; "s10-09" define(0) = -104
            """);
        due("sn-m: one CELL is its VALUE", "input(5, MIN) ; \"s5-5\" define(0) = 1 ; value(0) = MIN ; of(0, 1) = 0");
        due("sn-m: added up from n on", """
            input(1, MAX) ; input(2, 1) ; input(3, -1) ; "s1-3" define(0) = 1 ; of(0, 1) = 1 ; reads(0) = "1 2"
            input(2, -1) = 1 ; of(0, 1) = 0 ; value(0) = MAX-2 ; reads(0) = "1 2 3"
            input(1, MIN) = 1 ; of(0, 1) = 1 ; reads(0) = "1 2"
            """);
        due("sn-m: the first ERROR ends it", """
            input(1, 5) ; "1/0" define(3) ; "s1-3" define(0) = 1 ; of(0, 1) = 3 ; reads(0) = "1 2"
            input(2, 6) = 1 ; of(0, 1) = 2 ; reads(0) = "1 2 3" ; of(0, 8) = 2
            """);
    }

    private static void at() {
        due("@F: the CELL whose number F is", """
            input(0, 70) ; input(31, 71) ; "@0" define(1) ; "@31" define(2) ; value(1) = 70 ; value(2) = 71
            "@00000031" define(2) ; value(2) = 71 ; reads(2) = "31"
            """);
        due("@F: ERROR 3, if it is none of 0 .. 31", """
            "@32" define(1) = 1 ; of(1, 1) = 3 ; reads(1) = "" ; "@-1" define(1) = 1 ; of(1, 1) = 3 ; reads(1) = ""
            "@999999999" define(1) = 1 ; of(1, 1) = 3 ; reads(1) = ""
            """);
        due("@F: of a long, with no wrap-around", """
            k=0..31: input(k, k)
            "@#2" define(1) = 1 ; value(1) = 2
            input(2, 4294967296) = 1 ; of(1, 1) = 3 ; reads(1) = "2"
            input(2, 4294967299) = 1 ; of(1, 1) = 3 ; input(2, -4294967296) = 1 ; of(1, 1) = 3
            input(2, MAX) = 1 ; of(1, 1) = 3 ; input(2, MIN) = 1 ; of(1, 1) = 3 ; input(2, 256) = 1 ; of(1, 1) = 3
            input(2, 31) = 1 ; value(1) = 31 ; input(2, 32) = 1 ; of(1, 1) = 3 ; input(2, 0) = 1 ; value(1) = 0
            input(2, -1) = 1 ; of(1, 1) = 3
            """);
        due("@F: F may be an ERROR itself", """
            "@(1/0)" define(1) = 1 ; of(1, 1) = 2 ; "@#9" define(1) = 1 ; of(1, 1) = 3
            """);
        due("@F of @F", """
            input(0, 3) ; input(3, 31) ; input(31, 8) ; "@@@0" define(1) ; value(1) = 8 ; reads(1) = "0 3 31"
            """);
    }

    private static void not() {
        due("!F: 1, if F is an ERROR, otherwise 0", """
            input(0, MAX) ; input(1, 0) ; "!#0" define(2) ; value(2) = 0 ; "!#1" define(2) ; value(2) = 0
            "!#9" define(2) ; value(2) = 1 ; "!(1/0)" define(2) ; value(2) = 1 ; "!(#0+1)" define(2) ; value(2) = 1
            of(2, 1) = 0
            """);
        due("!F: but what is behind it is worked out", """
            input(5, 1) ; "!#9+#5" define(2) ; value(2) = 2 ; reads(2) = "9 5"
            """);
        due("!F: binds just F", "\"!1/0\" define(2) ; of(2, 1) = 2 ; \"!(1/0)/0\" define(2) ; of(2, 1) = 2");
        due("!F: of !F", "\"!!#9\" define(2) ; value(2) = 0 ; \"!!!#9\" define(2) ; value(2) = 0");
    }

    private static void within() {
        due("within 2 others: (, -, @, !, l, g", """
            input(0, 1) ; "(((1)))" define(9) = 1 ; "((-1))" define(9) = 1 ; "((@0))" define(9) = 1
            "((!1))" define(9) = 1 ; "((l(1,2)))" define(9) = 1 ; "((g(1,2)))" define(9) = 1
            """);
        due("within 3 others of these is none", """
            "((((1))))" define(9) = -103 ; "(((-1)))" define(9) = -103 ; "(((@0)))" define(9) = -103
            "(((!1)))" define(9) = -103 ; "(((l(1,2))))" define(9) = -103 ; "(((g(1,2))))" define(9) = -103
            """);
        due("within 3 others: each counts", """
            "---(1)" define(9) = -103 ; "@@@(1)" define(9) = -103 ; "!!!(1)" define(9) = -103
            "l(l(l((1),2),3),4)" define(9) = -106 ; "l(l(l(1,2),3),4)" define(9) = 1
            "g(4,g(3,g(2,(1))))" define(9) = -112 ; "g(4,g(3,g(2,1)))" define(9) = 1
            "(-@!1)" define(9) = -103 ; "(-@1)" define(9) = 1
            """);
        due("within 3 others: also as it ends", """
            "(((" define(9) = -103 ; "((((" define(9) = -103 ; "---" define(9) = -103
            """);
        due("the - of S-T is none of them", """
            "(((1-1)))" define(9) = 1 ; "1----1" define(9) = 1 ; "1-----1" define(9) = -105
            "---1----1" define(9) = 1
            """);
        due("# and s are none of them", "\"(((#0)))\" define(9) = 1 ; \"(((s0-1)))\" define(9) = 1");
        due("within others: those that are closed don't count", """
            "(((1)))+(((1)))*(((1)))" define(9) = 1 ; value(9) = 2
            """);
    }

    private static void factorsElse() {
        due("No blanks", """
            " 1" define(0) = -100 ; "1 " define(0) = -101 ; "1 +1" define(0) = -101 ; "# 1" define(0) = -101
            "s1 -2" define(0) = -102 ; "1+ 1" define(0) = -102
            """);
        due("no tab, no line's end", """
            feed(9) = 1 ; feed(49) = 2 ; define(0) = -100 ; feed(49) = 1 ; feed(10) = 2 ; define(0) = -101
            """);
        due("letters as they are", """
            "L(1,2)" define(0) = -100 ; "G(1,2)" define(0) = -100 ; "S1-2" define(0) = -100
            """);
        due("l the lesser", """
            "l(1,2)" define(0) ; value(0) = 1 ; "l(2,1)" define(0) ; value(0) = 1 ; "l(2,2)" define(0) ; value(0) = 2
            input(1, MIN) ; input(2, MAX) ; "l(#1,#2)" define(0) ; value(0) = MIN ; of(0, 1) = 0
            "l(#2,#1)" define(0) ; value(0) = MIN
            """);
        due("g the greater of both", """
            "g(1,2)" define(0) ; value(0) = 2 ; "g(2,1)" define(0) ; value(0) = 2 ; "g(2,2)" define(0) ; value(0) = 2
            input(1, MIN) ; input(2, MAX) ; "g(#1,#2)" define(0) ; value(0) = MAX ; "g(#2,#1)" define(0)
            value(0) = MAX
            """);
        due("l, g: E stands within", "\"l(1?5:6,g(1<2,0?1:2))\" define(0) ; value(0) = 2");
        due("l, g: two, no fewer, no more", """
            "l(1)" define(0) = -103 ; "l()" define(0) = -102 ; "g(1,)" define(0) = -104 ; "g(1,2,3)" define(0) = -105
            """);
    }

    private static void choices() {
        due("C?C:E: if that is not 0, the other C", """
            "1?5:6" define(0) ; value(0) = 5 ; "-1?5:6" define(0) ; value(0) = 5
            input(1, MIN) ; "#1?5:6" define(0) ; value(0) = 5 ; input(1, 4294967296) ; value(0) = 5
            input(1, MAX) ; value(0) = 5
            """);
        due("C?C:E: otherwise E", "\"0?5:6\" define(0) ; value(0) = 6 ; \"0?5:0?6:7\" define(0) ; value(0) = 7");
        due("C?C:E: what isn't asked for isn't worked out", """
            input(1, 1) ; "#1?#2:#3" define(0) ; reads(0) = "1 2" ; of(0, 1) = 3 ; input(1, 0) = 1 ; reads(0) = "1 3"
            "1?2:1/0" define(0) ; value(0) = 2 ; "0?1/0:3" define(0) ; value(0) = 3
            """);
        due("C?C:E: the E is read as far as it goes", """
            "1?2:0?3:4" define(0) ; value(0) = 2 ; "0?2:1?3:4" define(0) ; value(0) = 3
            """);
        due("C?C:E: the C's are no E's", """
            "1?2?3:4:5" define(0) = -103 ; "1?(2?3:4):5" define(0) = 1 ; value(0) = 3
            """);
        due("C?C:E: a C may compare", """
            "1<2?3>2:5=5" define(0) ; value(0) = 1 ; "2<1?3>2:5=6" define(0) ; value(0) = 0
            """);
    }

    private static void comparing() {
        due("< = >: 1 or 0", """
            input(1, MIN) ; input(2, MAX) ; "#1<#2" define(0) ; value(0) = 1 ; "#2<#1" define(0) ; value(0) = 0
            "#1>#2" define(0) ; value(0) = 0 ; "#2>#1" define(0) ; value(0) = 1 ; "#1=#2" define(0) ; value(0) = 0
            "#1=#1" define(0) ; value(0) = 1 ; "#1<#1" define(0) ; value(0) = 0 ; "#1>#1" define(0) ; value(0) = 0
            """);
        due("S<S: no more than one", """
            "1<2<3" define(0) = -103 ; "1=2=3" define(0) = -103 ; "1>2?1:2" define(0) = 1
            """);
        due("= of ERRORS is an ERROR", "\"#8=#9\" define(0) ; of(0, 1) = 3 ; reads(0) = \"8\"");
    }

    private static void over() {
        due("OVER: +", """
            input(1, MAX) ; input(2, MIN) ; "#1+0" define(0) ; of(0, 1) = 0 ; "#1+1" define(0) ; of(0, 1) = 1
            "#2+-1" define(0) ; of(0, 1) = 1 ; "#1+#2" define(0) ; value(0) = -1 ; "#1+#1" define(0) ; of(0, 1) = 1
            "#2+#2" define(0) ; of(0, 1) = 1
            """);
        due("OVER: -", """
            input(1, MAX) ; input(2, MIN) ; "#2-1" define(0) ; of(0, 1) = 1 ; "#2-0" define(0) ; of(0, 1) = 0
            "#1--1" define(0) ; of(0, 1) = 1 ; "0-#2" define(0) ; of(0, 1) = 1 ; "0-#1" define(0) ; value(0) = MIN+1
            "-1-#2" define(0) ; value(0) = MAX ; "-1-#1" define(0) ; value(0) = MIN ; of(0, 1) = 0
            "#2-#2" define(0) ; value(0) = 0 ; "#1-#2" define(0) ; of(0, 1) = 1
            """);
        due("OVER: -F", """
            input(1, MAX) ; input(2, MIN) ; "-#2" define(0) ; of(0, 1) = 1 ; "-#1" define(0) ; value(0) = MIN+1
            """);
        due("OVER: *", """
            input(1, MAX) ; input(2, MIN) ; input(3, 3037000500) ; input(4, 3037000499) ; input(5, 4294967296)
            "#1*1" define(0) ; value(0) = MAX ; "#1*-1" define(0) ; value(0) = MIN+1 ; "#1*2" define(0) ; of(0, 1) = 1
            "#2*1" define(0) ; of(0, 1) = 0 ; "#2*-1" define(0) ; of(0, 1) = 1 ; "-1*#2" define(0) ; of(0, 1) = 1
            "#2*0" define(0) ; value(0) = 0 ; "0*#2" define(0) ; value(0) = 0
            "#3*#3" define(0) ; of(0, 1) = 1 ; "#4*#4" define(0) ; value(0) = 9223372030926249001
            "#5*#5" define(0) ; of(0, 1) = 1 ; "#2*#2" define(0) ; of(0, 1) = 1
            """);
        due("OVER: /", """
            input(2, MIN) ; "#2/-1" define(0) ; of(0, 1) = 1 ; "#2/1" define(0) ; of(0, 1) = 0 ; value(0) = MIN
            """);
        due("OVER: as soon as it goes over", """
            input(1, MAX) ; "#1+1-1" define(0) ; of(0, 1) = 1 ; "#1-1+1" define(0) ; value(0) = MAX
            """);
    }

    private static void divided() {
        due("/ is cut", """
            "7/2" define(0) ; value(0) = 3 ; "-7/2" define(0) ; value(0) = -3 ; "7/-2" define(0) ; value(0) = -3
            "-7/-2" define(0) ; value(0) = 3 ; "1/2" define(0) ; value(0) = 0 ; "-1/2" define(0) ; value(0) = 0
            "0/5" define(0) ; value(0) = 0
            """);
        due("/ by 0: ERROR 2", """
            input(2, MIN) ; "1/0" define(0) ; of(0, 1) = 2 ; "0/0" define(0) ; of(0, 1) = 2 ; "#2/0" define(0)
            of(0, 1) = 2
            "1/(1-1)" define(0) ; of(0, 1) = 2 ; "1/-0" define(0) ; of(0, 1) = 2
            """);
    }

    private static void errorsFirst() {
        due("the whole is that ERROR: the first one", """
            "1/0+#9" define(0) ; of(0, 1) = 2 ; reads(0) = "" ; "#9+1/0" define(0) ; of(0, 1) = 3
            "#9*(1/0)" define(0) ; of(0, 1) = 3 ; "(1/0)*#9" define(0) ; of(0, 1) = 2
            "#9<1/0" define(0) ; of(0, 1) = 3 ; "1/0<#9" define(0) ; of(0, 1) = 2
            "l(#9,1/0)" define(0) ; of(0, 1) = 3 ; "g(1/0,#9)" define(0) ; of(0, 1) = 2
            "#9/0" define(0) ; of(0, 1) = 3 ; "#9?1/0:2" define(0) ; of(0, 1) = 3 ; "-(1/0)" define(0) ; of(0, 1) = 2
            """);
        due("nothing behind it is worked out", """
            input(1, 1) ; "#9+#1" define(0) ; reads(0) = "9" ; "l(#9,#1)" define(0) ; reads(0) = "9"
            "1/0?#1:#1" define(0) ; reads(0) = "" ; "#1/0+#2" define(0) ; reads(0) = "1"
            "!(#9+#1)+#2" define(0) ; reads(0) = "9 2"
            """);
        due("0 times an ERROR is that ERROR", """
            "0*#9" define(0) ; of(0, 1) = 3 ; "#9*0" define(0) ; of(0, 1) = 3
            """);
    }

    private static void reads() {
        due("READS: none", "\"5\" define(0) ; of(0, 4) = 0 ; reads(0, 0) = -1");
        due("READS: each once, in the order in which it first came to them", """
            k=1..9: input(k, k)
            "#3+#1+#3+s1-4+@2+@#3" define(0) ; reads(0) = "3 1 2 4" ; of(0, 4) = 4
            """);
        due("READS: all others", """
            k=1..31: input(k, 1)
            "s1-31+s1-31" define(0) = 1 ; of(0, 4) = 31 ; value(0) = 62 ; reads(0, 30) = 31 ; reads(0, 31) = -1
            """);
        due("READS: when it ran last", """
            input(1, 1) ; input(2, 5) ; input(3, 5) ; "#1?#2:#3" define(0) ; reads(0) = "1 2" ; input(3, 6) = 0
            input(1, 0) = 1 ; reads(0) = "1 3" ; input(2, 6) = 0 ; readers(2) = 0 ; readers(3) = 1
            """);
        due("READS: also those whose VALUE is an ERROR", """
            "#7+#8" define(0) ; reads(0) = "7" ; "!#7+#8" define(0) ; reads(0) = "7 8"
            """);
    }
}
