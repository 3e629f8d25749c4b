/** The boundary cases of the tape, of faults, of spellings and of the paper ("Terms", 3; promises 3, 10, 11, 22, 23). */
public final class BoundaryTextTest {
    private static final Check check = new Check("BoundaryTextTest");

    public static void main(String[] args) {
        tape();
        fullTape();
        firstFault();
        endsTooEarly();
        goesOnNot();
        faultsOfNumbers();
        everyByte();
        faultDoesNothing();
        brackets();
        bracketsOfSums();
        bracketsOfAll();
        spelledNumbers();
        longSpellings();
        paper();
        check.end();
    }

    private static void due(String sentence, String lines) {
        Lines.run(check, sentence, lines);
    }

    private static void tape() {
        due("THE TAPE holds 0 bytes at first", "told(10) = 0 ; clear() = 0 ; define(0) = -100");
        due("a byte (1 .. 127)", """
            feed(0) = -2 ; feed(128) = -2 ; feed(-1) = -2 ; feed(255) = -2 ; feed(256) = -2 ; feed(305) = -2
            feed(IMAX) = -2 ; feed(IMIN) = -2 ; told(10) = 0 ; feed(1) = 1 ; feed(127) = 2 ; told(10) = 2
            clear() = 2
            """);
        due("each of 1 .. 127", "k=1..120: feed(k) = k\nclear() = 120\nk=121..127: feed(k) = k-120");
        due("clear(): how many bytes it had", """
            "12+" clear() = 3 ; clear() = 0 ; "5" define(0) = 1 ; value(0) = 5
            """);
        due("THE TAPE is empty behind each call that reads it", """
            "5" define(0) = 1 ; told(10) = 0 ; "5x" define(0) = -101 ; told(10) = 0 ; "#0" define(0) = -7
            told(10) = 0
            begin() ; "7" define(0) = 0 ; told(10) = 0 ; "7+" define(0) = -102 ; told(10) = 0
            """);
        due("THE TAPE stays, if the CELL is NONE", """
            "5" define(-1) = -1 ; told(10) = 1 ; define(32) = -1 ; told(10) = 1 ; "+2" define(0) = 1 ; value(0) = 7
            "5x" define(32) = -1 ; told(10) = 2 ; clear() = 2
            """);
        due("no other call reads it", """
            "12" input(0, 1) ; begin() ; end() ; spell(0) ; image() ; undo() ; told(10) = 2 ; define(0) = 1
            value(0) = 12
            """);
    }

    private static void fullTape() {
        String most = "1+".repeat(60);
        due("120 bytes: FULL", '"' + most.substring(0, 119) + "\" feed(49) = 120 ; feed(49) = -4 ; told(10) = 120\n"
                + "define(0) = 1 ; value(0) = 70 ; feed(49) = 1");
        due("BAD ahead of FULL", '"' + most + "\" feed(0) = -2 ; feed(128) = -2 ; feed(1) = -4 ; feed(127) = -4 ; told(10) = 120");
        due("120 bytes: the length, if it ends too early", '"' + most + "\" define(0) = -220 ; told(10) = 0");
        due("120 bytes: the last byte", '"' + most.substring(0, 119) + "x\" define(0) = -219");
        due("120 bytes: clear()", '"' + most + "\" clear() = 120 ; feed(50) = 1 ; define(0) = 1 ; value(0) = 2");
        StringBuilder choices = new StringBuilder();
        for (int i = 0; i < 29; i++) {
            choices.append("0?1:");
        }
        due("120 bytes: as many choices as there is room for", '"' + choices.toString() + "1?#3\" define(0) = -220");
        due("120 bytes: of choices the last one", '"' + choices.toString() + "#31\" define(0) = 1 ; of(0, 1) = 3\n"
                + "reads(0) = \"31\"");
        due("120 bytes: signs", '"' + "-1".repeat(60) + "\" define(0) = 1 ; value(0) = -60");
        due("120 bytes: nots", '"' + "!1*".repeat(39) + "!!9\" define(0) = 1 ; value(0) = 0");
        due("120 bytes: brackets", '"' + "(1)+".repeat(29) + "(12)\" define(0) = 1 ; value(0) = 41");
    }

    private static void firstFault() {
        due("read from the left, the first FAULT that is met", """
            "x+#32" define(0) = -100 ; "#32+x" define(0) = -101 ; "1+#32+#33" define(0) = -103
            "1x2x" define(0) = -101
            "((((#32" define(0) = -103 ; "#32((((" define(0) = -101
            """);
        due("also in a part that isn't worked out", """
            "1?2:#32" define(0) = -105 ; "0?#32:2" define(0) = -103 ; "1/0+x" define(0) = -104
            """);
    }

    private static void endsTooEarly() {
        due("the length, if it ends too early: nothing", "define(0) = -100");
        due("the length, if it ends too early", """
            "1+" define(0) = -102 ; "1-" define(0) = -102 ; "1*" define(0) = -102 ; "1/" define(0) = -102
            "1<" define(0) = -102
            "1=" define(0) = -102 ; "1>" define(0) = -102 ; "1?" define(0) = -102 ; "1?2" define(0) = -103
            "1?2:" define(0) = -104 ; "#" define(0) = -101 ; "s" define(0) = -101 ; "s1" define(0) = -102
            "s1-" define(0) = -103 ; "-" define(0) = -101 ; "@" define(0) = -101 ; "!" define(0) = -101
            "(" define(0) = -101 ; "(1" define(0) = -102 ; "l" define(0) = -101 ; "l(" define(0) = -102
            "l(1" define(0) = -103 ; "l(1," define(0) = -104 ; "l(1,2" define(0) = -105 ; "g" define(0) = -101
            "g(" define(0) = -102 ; "g(1" define(0) = -103 ; "g(1," define(0) = -104 ; "g(1,2" define(0) = -105
            """);
        due("a number may end a text", """
            "1" define(0) = 1 ; "12" define(0) = 1 ; "#1" define(0) = 1 ; "s1-2" define(0) = 1 ; "1+1" define(0) = 1
            "1<1" define(0) = 1 ; "1?1:1" define(0) = 1 ; "(1)" define(0) = 1 ; "l(1,1)" define(0) = 1
            """);
    }

    private static void goesOnNot() {
        due("the first byte with which no such text goes on: behind a whole one", """
            "1)" define(0) = -101 ; "1(" define(0) = -101 ; "1," define(0) = -101 ; "1:" define(0) = -101
            "1#" define(0) = -101
            "1s" define(0) = -101 ; "1l" define(0) = -101 ; "1@" define(0) = -101 ; "1!" define(0) = -101
            "1?2:3:" define(0) = -105 ; "1?2:3)" define(0) = -105 ; "(1)2" define(0) = -103 ; "(1)(" define(0) = -103
            "#1#" define(0) = -102 ; "1<2<" define(0) = -103 ; "1<2=" define(0) = -103 ; "1<2>" define(0) = -103
            """);
        due("the first byte with which no such text goes on: within one", """
            "()" define(0) = -101 ; "(1," define(0) = -102 ; "(1:" define(0) = -102 ; "(1?2)" define(0) = -104
            "1?)" define(0) = -102 ; "1?2?" define(0) = -103 ; "1?2," define(0) = -103 ; "1?2)" define(0) = -103
            "l1" define(0) = -101 ; "ll" define(0) = -101 ; "l(," define(0) = -102 ; "l(1)" define(0) = -103
            "l(1:2)" define(0) = -103 ; "l(1,)" define(0) = -104 ; "l(1,2," define(0) = -105 ; "g1" define(0) = -101
            "g(1)" define(0) = -103 ; "g(1,2:" define(0) = -105 ; "(1?2:3,4)" define(0) = -106
            """);
        due("the first byte with which no such text goes on: behind a sign", """
            "1++" define(0) = -102 ; "1+*" define(0) = -102 ; "1*+" define(0) = -102 ; "1-/" define(0) = -102
            "1+)" define(0) = -102
            "1<=2" define(0) = -102 ; "1>=2" define(0) = -102 ; "1==2" define(0) = -102 ; "1<>2" define(0) = -102
            "1<-2" define(0) = 1 ; "1*-2" define(0) = 1 ; "1--2" define(0) = 1 ; "1+-2" define(0) = 1
            "+" define(0) = -100
            "*" define(0) = -100 ; "?" define(0) = -100 ; ":" define(0) = -100 ; ")" define(0) = -100
            "," define(0) = -100
            "-+" define(0) = -101 ; "@)" define(0) = -101 ; "!*" define(0) = -101 ; "##" define(0) = -101
            "#s" define(0) = -101
            "#(" define(0) = -101 ; "s#" define(0) = -101 ; "s1#" define(0) = -102 ; "s1-#" define(0) = -103
            """);
    }

    private static void faultsOfNumbers() {
        due("of a number that may not be, where it begins", """
            "#32" define(0) = -101 ; "1+#32" define(0) = -103 ; "s32" define(0) = -101 ; "s32-33" define(0) = -101
            "s1-32" define(0) = -103 ; "s01-32" define(0) = -104 ; "s31-30" define(0) = -104 ; "s2-1" define(0) = -103
            "(#99)" define(0) = -102 ; "l(1,s9-8)" define(0) = -107
            """);
        due("those are looked at ahead of the byte behind", """
            "#32x" define(0) = -101 ; "#99)" define(0) = -101 ; "#320" define(0) = -101 ; "s32x" define(0) = -101
            "s99+" define(0) = -101 ; "s2-1x" define(0) = -103 ; "s20-19)" define(0) = -104
            "s1-400" define(0) = -103
            """);
        due("as many figures as stand there, so many at most", """
            "#310" define(0) = -103 ; "#3 1" define(0) = -102 ; "s10-1" define(0) = -104 ; "s10-10" define(0) = 1
            "s1-10" define(0) = 1 ; "s1-100" define(0) = -105 ; "s3-4" define(0) = 1 ; "s3-44" define(0) = -103
            "s3-2" define(0) = -103 ; "s3-20" define(0) = 1 ; "1234567890" define(0) = -109
            "123456789x" define(0) = -109
            """);
    }

    /** What a byte alone, and one behind a number, is told: just figures, # and so on go on. */
    private static void everyByte() {
        for (int letter = 1; letter <= 127; letter++) {
            boolean figure = letter >= '0' && letter <= '9';
            boolean begins = "#s-(@!lg".indexOf(letter) >= 0;
            long due = figure ? 1 : begins ? -101 : -100;
            Lines.run(check, "the byte " + letter + " alone", "feed(" + letter + ") = 1 ; define(0) = " + due);
            boolean sign = "+-*/<=>?".indexOf(letter) >= 0;
            due = figure ? 1 : sign ? -102 : -101;
            Lines.run(check, "the byte " + letter + " behind a number", "\"1\" feed(" + letter + ") = 2 ; define(0) = " + due);
            due = figure ? 1 : begins ? -103 : -102;
            Lines.run(check, "the byte " + letter + " behind a sign", "\"1*\" feed(" + letter + ") = 3 ; define(0) = " + due);
        }
    }

    private static void faultDoesNothing() {
        due("a text with a FAULT does nothing", """
            input(0, 5) ; "#0" define(1) ; "#0+" define(1) = -103 ; value(1) = 5 ; of(1, 3) = 1 ; spelling(1) = "#0"
            told(5) = 2
            "1+" define(2) = -102 ; of(2, 0) = 0 ; "x" define(0) = -100 ; of(0, 0) = 1 ; past(0, 0) = 1
            past(2, 0) = -1
            """);
    }

    private static void spelled(String text, String due) {
        due("SPELLING of " + text, '"' + text + "\" define(31) ; spell(31) = " + due.length() + " ; paper() = \"" + due + "\"");
    }

    private static void brackets() {
        spelled("(5)", "5");
        spelled("(#5)", "#5");
        spelled("(s1-2)", "s1-2");
        spelled("((-5))", "-5");
        spelled("-(5)", "-5");
        spelled("-(#5)", "-#5");
        spelled("-(s1-2)", "-s1-2");
        spelled("@(!5)", "@!5");
        spelled("!(@5)", "!@5");
        spelled("-(5+1)", "-(5+1)");
        spelled("-(5*1)", "-(5*1)");
        spelled("!(5<1)", "!(5<1)");
        spelled("@(1?2:3)", "@(1?2:3)");
        spelled("-(l(1,2))", "-l(1,2)");
        spelled("(g((1),(2)))", "g(1,2)");
        spelled("l((1?2:3),(4+5))", "l(1?2:3,4+5)");
        spelled("((1<2))?((3=4)):((5>6))", "1<2?3=4:5>6");
        spelled("(1?2:3)?4:5", "(1?2:3)?4:5");
        spelled("1?(2?3:4):5", "1?(2?3:4):5");
        spelled("1?2:(3?4:5)", "1?2:3?4:5");
        spelled("(1<2)<3", "(1<2)<3");
        spelled("1=(2<3)", "1=(2<3)");
        spelled("(1+2)>(3-4)", "1+2>3-4");
        spelled("(1?2:3)=4", "(1?2:3)=4");
    }

    private static void bracketsOfSums() {
        spelled("(1+2)+3", "1+2+3");
        spelled("1+(2+3)", "1+(2+3)");
        spelled("(1-2)-3", "1-2-3");
        spelled("1-(2-3)", "1-(2-3)");
        spelled("1-(2+3)", "1-(2+3)");
        spelled("(1*2)*3", "1*2*3");
        spelled("1*(2*3)", "1*(2*3)");
        spelled("(1/2)/3", "1/2/3");
        spelled("1/(2/3)", "1/(2/3)");
        spelled("1*(2/3)", "1*(2/3)");
        spelled("(1+2)*3", "(1+2)*3");
        spelled("1*(2+3)", "1*(2+3)");
        spelled("(1*2)+(3*4)", "1*2+3*4");
        spelled("1-(2*3)", "1-2*3");
        spelled("(1<2)+3", "(1<2)+3");
        spelled("1+(2<3)", "1+(2<3)");
        spelled("(1<2)*3", "(1<2)*3");
        spelled("1*(0?2:3)", "1*(0?2:3)");
        spelled("1-(-2)", "1--2");
        spelled("1*(-2)", "1*-2");
        spelled("(-1)-(-2)", "-1--2");
        spelled("(-1)*2", "-1*2");
        spelled("-(1)*2", "-1*2");
        spelled("-(-1)", "--1");
        spelled("1-(s1-2)", "1-s1-2");
        spelled("(s1-2)-2", "s1-2-2");
    }

    /** Each kind of part in each place: 0 stands for E, 1 for C, 2 for S, 3 for T, 4 for F. */
    private static void bracketsOfAll() {
        String[] parts = {"0 1?2:3", "1 1<2", "1 1=2", "1 1>2", "2 1+2", "2 1-2", "3 1*2", "3 1/2", "4 1", "4 #1", "4 s1-2",
            "4 -1", "4 @1", "4 !1", "4 l(1,2)", "4 g(1,2)"};
        String[] places = {"1 X?1:2", "1 1?X:2", "0 1?2:X", "2 X<1", "2 1<X", "2 X=1", "2 1=X", "2 X>1", "2 1>X", "2 X+1",
            "3 1+X", "2 X-1", "3 1-X", "3 X*1", "4 1*X", "3 X/1", "4 1/X", "4 -X", "4 @X", "4 !X", "0 l(X,1)", "0 l(1,X)",
            "0 g(X,1)", "0 g(1,X)", "0 X"};
        for (String part : parts) {
            for (String place : places) {
                String inner = part.substring(2);
                boolean needed = part.charAt(0) < place.charAt(0);
                spelled(place.substring(2).replace("X", "(" + inner + ")"),
                        place.substring(2).replace("X", needed ? "(" + inner + ")" : inner));
            }
        }
    }

    private static void spelledNumbers() {
        spelled("0", "0");
        spelled("00", "0");
        spelled("000000000", "0");
        spelled("000000010", "10");
        spelled("100", "100");
        spelled("999999999", "999999999");
        spelled("#00", "#0");
        spelled("#09", "#9");
        spelled("#10", "#10");
        spelled("#30", "#30");
        spelled("s00-09", "s0-9");
        spelled("s09-10", "s9-10");
        spelled("s3-3", "s3-3");
        spelled("@007", "@7");
    }

    private static void longSpellings() {
        String sums = "s0-9+".repeat(24);
        String most = sums.substring(0, 119);
        due("SPELLING: longer than THE TAPE, as a copy may be", '"' + most + "\" define(0) = -7 ; \"" + most + "\" define(11) = 1\n"
                + "copy(11, 21) = 1 ; spell(21) = " + most.replace("s0-9", "s10-19").length() + " ; paper(0) = 115 ; paper(1) = 49\n"
                + "told(11) = 167 ; paper(166) = 57 ; paper(167) = -1 ; paper(165) = 49");
        due("SPELLING: of brackets", "\"" + "(1)+".repeat(28) + "((2))\" define(0) = 1 ; spelling(0) = \"" + "1+".repeat(28) + "2\"");
        due("SPELLING: of choices", "\"" + "1?1:".repeat(29) + "1\" define(0) = 1 ; spelling(0) = \"" + "1?1:".repeat(29) + "1\"");
        due("SPELLING: of signs", "\"" + "-1*".repeat(39) + "2\" define(0) = 1 ; spelling(0) = \"" + "-1*".repeat(39) + "2\"");
    }

    private static void paper() {
        due("THE PAPER holds nothing at first", "paper(0) = -1 ; told(11) = 0 ; paper(-1) = -1");
        due("THE PAPER holds the latest one", """
            "12+3" define(0) ; "7" define(1) ; spell(0) = 4 ; paper(3) = 51 ; paper(4) = -1 ; told(11) = 4
            spell(1) = 1 ; paper(0) = 55 ; paper(1) = -1 ; paper(3) = -1 ; told(11) = 1
            """);
        due("THE PAPER stays by what is refused", """
            "12+3" define(0) ; input(1, 1) ; spell(0) ; spell(1) = -3 ; spell(2) = -3 ; spell(-1) = -1
            spell(32) = -1
            spell(IMAX) = -1 ; spell(IMIN) = -1 ; paper() = "12+3"
            """);
        due("THE PAPER stays by what is told", """
            "12+3" define(0) ; spell(0) ; drop(0) ; paper() = "12+3" ; "4" define(0) ; paper() = "12+3" ; image()
            undo() ; paper() = "12+3"
            """);
        due("Byte i of THE PAPER", """
            "12+3" define(0) ; spell(0) ; paper(0) = 49 ; paper(1) = 50 ; paper(2) = 43 ; paper(3) = 51
            paper(4) = -1
            paper(-1) = -1 ; paper(IMAX) = -1 ; paper(IMIN) = -1 ; paper(255) = -1 ; paper(256) = -1
            """);
    }
}
