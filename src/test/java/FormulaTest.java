/** A formula's text (promises 3 and 22 rest on it): its faults, what it is worked out to, what it reads, its spelling. */
public final class FormulaTest {
    private static final Check check = new Check("FormulaTest");

    public static void main(String[] args) {
        faults();
        nesting();
        lengths();
        numbers();
        signs();
        errors();
        reads();
        spelling();
        spellingAgain();
        check.end();
    }

    private static void fault(String text, int place) {
        ReactiveSheet sheet = new ReactiveSheet();
        check.due("fault of " + text, Check.define(sheet, 0, text), -100 - place);
        check.due("state behind " + text, sheet.of(0, 0), 0);
    }

    private static void faults() {
        fault("", 0);
        fault(" 1", 0);
        fault("1 ", 1);
        fault("x", 0);
        fault("+1", 0);
        fault("1+", 2);
        fault("1+*2", 2);
        fault("1++2", 2);
        fault("()", 1);
        fault("(1", 2);
        fault("1)", 1);
        fault("(1))", 3);
        fault("#", 1);
        fault("#x", 1);
        fault("##1", 1);
        fault("#32", 1);
        fault("#99", 1);
        fault("#32x", 1);
        fault("1+#40", 3);
        fault("#311", 3);
        fault("#001", 3);
        fault("s", 1);
        fault("s3", 2);
        fault("s3+4", 2);
        fault("s3-", 3);
        fault("s3-x", 3);
        fault("s5-3", 3);
        fault("s32-33", 1);
        fault("s3-32", 3);
        fault("s3-311", 5);
        fault("s10-9", 4);
        fault("s10-90", 4);
        fault("s-1", 1);
        fault("s3--4", 3);
        fault("1234567890", 9);
        fault("0000000001", 9);
        fault("1?2", 3);
        fault("1?2:", 4);
        fault("1?:2", 2);
        fault("1?2?3:4:5", 3);
        fault("1:2", 1);
        fault("1<2<3", 3);
        fault("1=2>3", 3);
        fault("1<", 2);
        fault("l", 1);
        fault("l1,2)", 1);
        fault("l(1)", 3);
        fault("l(1;2)", 3);
        fault("l(1,2", 5);
        fault("l(1,2,3)", 5);
        fault("g(,1)", 2);
        fault("L(1,2)", 0);
        fault("S1-2", 0);
        fault("1,2", 1);
        fault("!", 1);
        fault("-", 1);
        fault("@", 1);
        fault("1!", 1);
        fault("1@2", 1);
        fault("1#2", 1);
        fault("12s3-4", 2);
        fault("1%2", 1);
        fault("(1?2:3)4", 7);
        fault("\u0001", 0);
        fault("1\u007f", 1);
    }

    private static void right(String text, long number) {
        ReactiveSheet sheet = new ReactiveSheet();
        check.due("define of " + text, Check.define(sheet, 0, text), 1);
        check.due("error of " + text, sheet.of(0, 1), 0);
        check.due("number of " + text, sheet.value(0), number);
    }

    /** A (, -, @, !, l, g within three others is none. */
    private static void nesting() {
        right("(((1)))", 1);
        right("---1", -1);
        right("((-1))", -1);
        right("-(-1)--1", 2);
        right("1----1", 2);
        right("l(g((1),2),3)", 2);
        right("!!!1", 0);
        right("-l(-1,-2)", 2);
        right("l(-(1),-2)", -2);
        fault("-l(-(1),-2)", 4);
        right("(((1+2)*3)-4)*(((5)))", 25);
        right("(((1)))+(((1)))", 2);
        right("((!1))", 0);
        fault("((((1))))", 3);
        fault("----1", 3);
        fault("1-----1", 5);
        fault("(((-1)))", 3);
        fault("(((@1)))", 3);
        fault("(((!1)))", 3);
        fault("(((l(1,2))))", 3);
        fault("!@-g(1,2)", 3);
        fault("l(1,g(1,l(1,(2))))", 12);
        fault("((1)+((2)+(3*(4))))", 13);
        ReactiveSheet sheet = new ReactiveSheet();
        sheet.input(1, 5);
        check.due("# and s are none of these", Check.define(sheet, 0, "(((#1+s1-1)))"), 1);
        check.due("# and s are none of these", sheet.value(0), 10);
    }

    private static void lengths() {
        StringBuilder text = new StringBuilder("1");
        for (int i = 0; i < 59; i++) {
            text.append("+1");
        }
        right(text.toString(), 60);
        right(text + "2", 71);
        StringBuilder choices = new StringBuilder();
        for (int i = 0; i < 29; i++) {
            choices.append("0?1:");
        }
        right(choices + "7", 7);
        right(choices + "1234", 1234);
        fault(choices + "1?1:", 120);
        fault(choices + "1+1?", 120);
        StringBuilder signs = new StringBuilder("!!(");
        for (int i = 0; i < 28; i++) {
            signs.append("0?0:");
        }
        right(signs + "1)", 0);
    }

    private static void numbers() {
        right("0", 0);
        right("999999999", 999999999);
        right("000000007", 7);
        right("007", 7);
        right("999999999*999999999", 999999998000000001L);
    }

    private static void signs() {
        right("7-4-2", 1);
        right("7-(4-2)", 5);
        right("2+3*4", 14);
        right("(2+3)*4", 20);
        right("24/4/2", 3);
        right("24/(4/2)", 12);
        right("7/2*2", 6);
        right("-7/2", -3);
        right("7/-2", -3);
        right("-(7/2)", -3);
        right("-2*-3", 6);
        right("2*-3", -6);
        right("1-2*3-4", -9);
        right("1<2", 1);
        right("2<1", 0);
        right("2<2", 0);
        right("2>1", 1);
        right("2>2", 0);
        right("1+1=2", 1);
        right("1+1=3", 0);
        right("(1<2)<3", 1);
        right("0?1:2", 2);
        right("-1?1:2", 1);
        right("1<2?3<4:5", 1);
        right("0?1:0?2:3", 3);
        right("0?1:1?2:3", 2);
        right("(0?1:1)?2:3", 2);
        right("l(3,2)", 2);
        right("g(3,2)", 3);
        right("l(-1,1)*g(0?1:5,4)", -5);
        right("!1", 0);
        right("!(1/0)", 1);
        right("!#9", 1);
        right("!#9+1", 2);
        right("-!#9", -1);
        right("!(1+#9*2)=1", 1);
        right("!!#9", 0);
        right("2--!(1/0)", 3);
        right("!@5", 1);
        right("!@5?1:2", 1);
    }

    private static void error(String text, int error) {
        ReactiveSheet sheet = new ReactiveSheet();
        sheet.input(1, Long.MAX_VALUE);
        sheet.input(2, Long.MIN_VALUE);
        sheet.input(3, -1);
        sheet.input(4, 0);
        check.due("define of " + text, Check.define(sheet, 0, text), 1);
        check.due("error of " + text, sheet.of(0, 1), error);
        check.due("value by " + text, sheet.value(0) == ReactiveSheet.NO ? 1 : 0, error == 0 ? 0 : 1);
    }

    private static void errors() {
        error("#1+1", 1);
        error("#1+0", 0);
        error("#2-1", 1);
        error("#2+#3", 1);
        error("#1-#3", 1);
        error("-#2", 1);
        error("-#1", 0);
        error("0-#2", 1);
        error("#2/#3", 1);
        error("#2/2", 0);
        error("5/#3", 0);
        error("#2*#3", 1);
        error("#3*#3", 0);
        error("#4*#2", 0);
        error("#3*#2", 1);
        error("#1*#3", 0);
        error("#1*2", 1);
        error("2*#1", 1);
        error("#2*#2", 1);
        error("#1*#1", 1);
        error("999999999*999999999*999999999", 1);
        error("s1-1", 0);
        error("s1-2", 0);
        error("s2-3", 1);
        error("1/0", 2);
        error("0/0", 2);
        error("#2/0", 2);
        error("1/#4", 2);
        error("1/0+#9", 2);
        error("#9+1/0", 3);
        error("#9/0", 3);
        error("#1+1-#9", 1);
        error("1/0<#9", 2);
        error("#9=1/0", 3);
        error("l(1/0,#9)", 2);
        error("g(#9,1/0)", 3);
        error("l(1,#9)", 3);
        error("#9?1:2", 3);
        error("1?2:#9", 0);
        error("0?#9:2", 0);
        error("1?1/0:#9", 2);
        error("@32", 3);
        error("@-1", 3);
        error("@(0-1)", 3);
        error("@9", 3);
        error("@(1/0)", 2);
        error("@#1", 3);
        error("@#2", 3);
        error("@4", 0);
        error("@(999999999*4+300000000+4)", 3);
        error("s1-9", 3);
        error("s3-9", 3);
        error("!(1/0)/0", 2);
        error("!!(1/0)/0", 2);
        error("1/!(1/0)", 0);
        error("1/!!(1/0)", 2);
    }

    private static void read(String text, String cells) {
        ReactiveSheet sheet = new ReactiveSheet();
        sheet.input(1, Long.MAX_VALUE);
        sheet.input(2, 7);
        sheet.input(3, -1);
        sheet.input(4, 0);
        check.due("define of " + text, Check.define(sheet, 0, text), 1);
        check.due("reads of " + text, Check.reads(sheet, 0), cells);
        check.due("how many reads of " + text, sheet.of(0, 4), cells.isEmpty() ? 0 : cells.split(" ").length);
    }

    /** The cells to whose values it came, each once, in the order in which it first came to them. */
    private static void reads() {
        read("1", "");
        read("#3+#2*#4-#3", "3 2 4");
        read("#4?#3:#2", "4 2");
        read("#2?#3:#4", "2 3");
        read("#4*#3", "4 3");
        read("#9+#3", "9");
        read("1/#4+#3", "4");
        read("1/0+#3", "");
        read("l(#3,#2)", "3 2");
        read("l(#9,#2)", "9");
        read("g(#2,#9)+#3", "2 9");
        read("#3<#2", "3 2");
        read("#9<#2", "9");
        read("!#9+#2", "9 2");
        read("!(#9+#3)+#2", "9 2");
        read("!(1/#4+#3)?#2:#1", "4 2");
        read("@#3", "3");
        read("@(#4+1)", "4 1");
        read("@#2", "2 7");
        read("@(#2-#3)", "2 3 8");
        read("@#3+#2", "3");
        read("@32", "");
        read("@31", "31");
        read("s2-4", "2 3 4");
        read("s2-31", "2 3 4 5");
        read("#3+s2-4", "3 2 4");
        read("s1-3", "1 2");
        read("!s1-4", "1 2");
        read("!s1-4?s3-4:#9", "1 2 3 4");
        read("#1+1+#2", "1");
        read("#1*#2+#3", "1 2");
        read("-(#1+1)+#2", "1");
        read("(#2?#3:#4)?#4:#1", "2 3 4");
        read("0?1:#3?#2:#1", "3 2");
        ReactiveSheet sheet = new ReactiveSheet();
        check.due("all but itself", Check.define(sheet, 31, "!(s0-30)+!#1+!#2"), 1);
        check.due("the first error ends a sum", Check.reads(sheet, 31), "0 1 2");
    }

    private static void spelled(String text, String shortest) {
        ReactiveSheet sheet = new ReactiveSheet();
        check.due("define of " + text, Check.define(sheet, 9, text) >= 0 ? 1 : 0, 1);
        check.due("spelling of " + text, Check.spelling(sheet, 9), shortest);
        check.due("the spelling is a text", Check.define(sheet, 9, shortest) >= 0 ? 1 : 0, 1);
        check.due("spelling of " + shortest, Check.spelling(sheet, 9), shortest);
    }

    private static void spelling() {
        spelled("007", "7");
        spelled("000000000", "0");
        spelled("#07+s01-08*100", "#7+s1-8*100");
        spelled("(((5)))", "5");
        spelled("(#0)", "#0");
        spelled("(s0-1)", "s0-1");
        spelled("(1+2)+3", "1+2+3");
        spelled("1+(2+3)", "1+(2+3)");
        spelled("1-(2-3)", "1-(2-3)");
        spelled("(1-2)-3", "1-2-3");
        spelled("(1*2)+(3/4)", "1*2+3/4");
        spelled("(1+2)*(3+4)", "(1+2)*(3+4)");
        spelled("1*(2*3)", "1*(2*3)");
        spelled("(1*2)*3", "1*2*3");
        spelled("1/(2*3)", "1/(2*3)");
        spelled("1+(2*3)", "1+2*3");
        spelled("(1+1)<(2*2)", "1+1<2*2");
        spelled("(1<2)<3", "(1<2)<3");
        spelled("1<(2<3)", "1<(2<3)");
        spelled("(1<2)=(2>3)", "(1<2)=(2>3)");
        spelled("(1<2)+1", "(1<2)+1");
        spelled("1+(1?2:3)", "1+(1?2:3)");
    }

    private static void spellingAgain() {
        spelled("(1)?(2):(3)", "1?2:3");
        spelled("(1<2)?(3<4):(5<6)", "1<2?3<4:5<6");
        spelled("1?2:(3?4:5)", "1?2:3?4:5");
        spelled("1?(2?3:4):5", "1?(2?3:4):5");
        spelled("(1?2:3)?4:5", "(1?2:3)?4:5");
        spelled("(1?2:3)<4", "(1?2:3)<4");
        spelled("-(5)", "-5");
        spelled("-(-5)", "--5");
        spelled("-(1+2)", "-(1+2)");
        spelled("-(1*2)", "-(1*2)");
        spelled("(-1)*2", "-1*2");
        spelled("1*(-2)", "1*-2");
        spelled("1-(-2)", "1--2");
        spelled("@(#3)", "@#3");
        spelled("@(#3+1)", "@(#3+1)");
        spelled("!(#3)", "!#3");
        spelled("!(1/0)", "!(1/0)");
        spelled("!!(1)", "!!1");
        spelled("l((1+2),(3))", "l(1+2,3)");
        spelled("g((1?2:3),(4<5))", "g(1?2:3,4<5)");
        spelled("(l(1,2))*(g(3,4))", "l(1,2)*g(3,4)");
        spelled("-(l(1,2))", "-l(1,2)");
        spelled("s3-3", "s3-3");
        spelled("(s3-4)-5", "s3-4-5");
        spelled("(1+2)", "1+2");
        spelled("(1?2:3)", "1?2:3");
    }
}
