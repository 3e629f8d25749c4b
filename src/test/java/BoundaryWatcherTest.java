/** The boundary cases of promises 24 to 29: each sentence of theirs that names one has a run of its own. */
public final class BoundaryWatcherTest {
    private static final Check check = new Check("BoundaryWatcherTest");

    public static void main(String[] args) {
        watch();
        any();
        rise();
        crosses();
        breaks();
        inTheirOrder();
        quit();
        log();
        logOfSixty();
        logged();
        told();
        toldOfWaves();
        past();
        pastOfTwenty();
        check.end();
    }

    private static void due(String sentence, String lines) {
        Lines.run(check, sentence, lines);
    }

    private static void watch() {
        due("24: NONE: cell", """
            watch(-1, 0, 0) = -1 ; watch(32, 0, 0) = -1 ; watch(IMAX, 0, 0) = -1 ; watch(IMIN, 0, 0) = -1
            told(6) = 0
            """);
        due("24: NONE: kind (0 .. 3)", """
            watch(0, -1, 0) = -1 ; watch(0, 4, 0) = -1 ; watch(0, IMAX, 0) = -1 ; watch(0, IMIN, 0) = -1 ; told(6) = 0
            watch(0, 0, 0) = 0 ; watch(0, 3, 0) = 1
            """);
        due("24: its number", "k=0..7: watch(k, 0, MAX) = k ; told(6) = k+1");
        due("24: FULL: 8", """
            k=0..7: watch(0, 0, 0) = k
            watch(0, 0, 0) = -4 ; watch(31, 3, 0) = -4 ; told(6) = 8 ; input(0, 1) ; told(7) = 8
            """);
        due("24: NONE ahead of FULL", """
            k=0..7: watch(0, 0, 0) = k
            watch(32, 0, 0) = -1 ; watch(-1, 0, 0) = -1 ; watch(0, 4, 0) = -1 ; watch(0, -1, 0) = -1
            """);
        due("24: an ABSENT one, the last one", """
            watch(31, 0, 0) = 0 ; input(31, 1) ; told(7) = 1 ; input(30, 1) ; told(7) = 1
            """);
        due("24: what was ahead of it isn't told", """
            input(0, 1) ; watch(0, 0, 0) ; told(7) = 0 ; input(0, 1) ; told(7) = 0 ; input(0, 2) ; told(7) = 1
            """);
        due("24: within a BATCH at once", """
            begin() ; input(0, 1) ; watch(0, 0, 0) = 0 ; told(6) = 1 ; end() ; told(7) = 1
            """);
    }

    private static void any() {
        due("0 ANY: if that is CHANGED", """
            watch(0, 0, 0) ; input(0, 0) ; told(7) = 1 ; input(0, 0) ; told(7) = 1 ; input(0, -1) ; told(7) = 2
            drop(0) ; told(7) = 3
            drop(0) ; told(7) = 3 ; "1/0" define(0) ; told(7) = 4 ; "#9" define(0) ; told(7) = 5 ; "#8" define(0)
            told(7) = 5
            """);
        due("0 ANY: its bound is nothing to it", """
            watch(0, 0, MAX) ; input(0, 0) ; past(0, 3) = 1 ; input(0, MIN) ; past(0, 3) = 1
            """);
        due("0 ANY: what RAN, and isn't CHANGED", """
            input(1, 1) ; "#1>0" define(0) ; watch(0, 0, 0) ; input(1, 2) ; told(2) = 1 ; told(7) = 0
            """);
    }

    private static void rise() {
        due("1 RISE: if it was a number, and is a greater one", """
            input(0, 5) ; watch(0, 1, 0) ; input(0, 6) ; told(7) = 1 ; input(0, 6) ; told(7) = 1 ; input(0, 5)
            told(7) = 1
            input(0, MAX) ; told(7) = 2 ; input(0, MIN) ; told(7) = 2 ; input(0, MIN+1) ; told(7) = 3 ; input(0, MAX)
            told(7) = 4
            input(0, -1) ; input(0, 0) ; told(7) = 5
            """);
        due("1 RISE: from an ERROR, to an ERROR", """
            watch(0, 1, 0) ; input(0, 5) ; told(7) = 0 ; drop(0) ; told(7) = 0 ; input(0, MIN) ; drop(0) ; told(7) = 0
            """);
    }

    private static void crosses() {
        due("2 CROSSES: just one of both is below its bound", """
            input(0, 9) ; watch(0, 2, 10) ; input(0, 8) ; told(7) = 0 ; input(0, 9) ; told(7) = 0 ; input(0, 10)
            told(7) = 1
            input(0, 11) ; told(7) = 1 ; input(0, 10) ; told(7) = 1 ; input(0, 9) ; told(7) = 2 ; input(0, MAX)
            told(7) = 3
            input(0, MIN) ; told(7) = 4
            """);
        due("2 CROSSES: the least bound", """
            input(0, 0) ; watch(0, 2, MIN) ; input(0, MIN) ; input(0, MAX) ; told(7) = 0
            """);
        due("2 CROSSES: the greatest bound", """
            input(0, 0) ; watch(0, 2, MAX) ; input(0, MAX-1) ; told(7) = 0 ; input(0, MAX) ; told(7) = 1
            input(0, MAX-1) ; told(7) = 2
            """);
        due("2 CROSSES: from an ERROR, to an ERROR", """
            watch(0, 2, 10) ; input(0, 50) ; told(7) = 0 ; drop(0) ; told(7) = 0 ; input(0, -50) ; told(7) = 0
            drop(0) ; told(7) = 0
            """);
    }

    private static void breaks() {
        due("3 BREAKS: if just one of both is an ERROR", """
            watch(0, 3, 0) ; input(0, 5) ; told(7) = 1 ; input(0, 6) ; told(7) = 1 ; drop(0) ; told(7) = 2
            "1/0" define(0) ; told(7) = 2
            "#9" define(0) ; told(7) = 2 ; "0" define(0) ; told(7) = 3 ; "1" define(0) ; told(7) = 3
            """);
    }

    private static void inTheirOrder() {
        due("watchers are asked in their order", """
            "#0" define(1) ; watch(1, 0, 0) ; watch(0, 0, 0) ; watch(1, 0, 0) ; input(0, 5) ; told(7) = 3
            log(0, 0) = 0 ; log(1, 0) = 1 ; log(2, 0) = 2 ; past(0, 3) = 3
            """);
        due("watchers of one CELL, each its own kind", """
            input(0, 5) ; watch(0, 3, 0) ; watch(0, 1, 0) ; watch(0, 2, 6) ; watch(0, 0, 0) ; input(0, 7)
            told(7) = 3
            log(0, 0) = 1 ; log(1, 0) = 2 ; log(2, 0) = 3 ; drop(0) ; told(7) = 5 ; log(3, 0) = 0 ; log(4, 0) = 3
            """);
        due("behind a WAVE: once, whatever the BATCH told", """
            watch(0, 0, 0) ; begin() ; input(0, 1) ; input(0, 2) ; end() ; told(7) = 1 ; logged(0, 1) = 2
            log(0, 1) = 3
            """);
        due("behind a refused one: none", """
            input(0, 3) ; "@#0" define(1) ; watch(0, 0, 0) ; input(0, 1) = -7 ; told(7) = 0
            """);
    }

    private static void quit() {
        due("25: NONE", """
            quit(0) = -1 ; quit(-1) = -1 ; quit(IMAX) = -1 ; quit(IMIN) = -1 ; watch(0, 0, 0) ; quit(1) = -1
            quit(8) = -1 ; quit(32) = -1 ; quit(0) = 1
            """);
        due("25: 1, or 0, if it didn't ahead of that", "watch(0, 0, 0) ; quit(0) = 1 ; quit(0) = 0 ; quit(0) = 0");
        due("25: it tells nothing more", """
            watch(0, 0, 0) ; watch(0, 0, 0) ; quit(0) ; input(0, 1) ; told(7) = 1 ; log(0, 0) = 1 ; past(0, 3) = 1
            """);
        due("25: what it told stays", """
            watch(0, 0, 0) ; input(0, 1) ; quit(0) ; told(7) = 1 ; log(0, 0) = 0 ; logged(0, 1) = 1
            """);
        due("25: all eight", """
            k=0..7: watch(0, 0, 0) = k
            k=0..7: quit(k) = 1
            k=0..7: quit(k) = 0
            input(0, 1) ; told(7) = 0 ; quit(8) = -1
            """);
        due("25: within a BATCH at once", """
            watch(0, 0, 0) ; begin() ; input(0, 1) ; quit(0) = 1 ; end() ; told(7) = 0
            """);
    }

    private static void log() {
        due("26: NONE: i", """
            log(0, 0) = -1 ; watch(0, 0, 0) ; input(0, 1) ; log(0, 0) = 0 ; log(1, 0) = -1 ; log(-1, 0) = -1
            log(IMAX, 0) = -1 ; log(IMIN, 0) = -1 ; log(60, 0) = -1
            """);
        due("26: NONE: what", """
            watch(0, 0, 0) ; input(0, 1) ; log(0, -1) = -1 ; log(0, 3) = -1 ; log(0, IMAX) = -1 ; log(0, IMIN) = -1
            log(0, 2) = 0
            """);
        due("26: the ERROR that it was (0: a number), that it is", """
            input(0, 1) ; watch(0, 0, 0) ; "1/0" define(0) ; log(0, 1) = 0 ; log(0, 2) = 2 ; "#9" define(0)
            log(1, 1) = 2 ; log(1, 2) = 3
            input(9, MAX) ; "#9+1" define(0) ; log(3, 1) = 0 ; log(3, 2) = 1 ; input(0, 0) ; log(4, 1) = 1
            log(4, 2) = 0
            """);
    }

    private static void logOfSixty() {
        due("60 at most: just 60", """
            input(0, 0) ; watch(0, 0, 0)
            k=1..60: input(0, k) ; told(7) = k
            logged(0, 0) = 0 ; logged(0, 1) = 1 ; logged(59, 1) = 60 ; logged(60, 1) = NO ; log(60, 0) = -1
            log(59, 0) = 0
            """);
        due("60 at most: then the oldest goes", """
            input(0, 0) ; watch(0, 0, 0)
            k=1..61: input(0, k)
            told(7) = 60 ; logged(0, 0) = 1 ; logged(0, 1) = 2 ; logged(59, 0) = 60 ; logged(59, 1) = 61
            logged(60, 1) = NO
            k=62..125: input(0, k) ; told(7) = 60 ; logged(0, 1) = k-59 ; logged(59, 1) = k
            """);
        due("60 at most: several in one WAVE", """
            k=0..7: watch(0, 0, 0)
            k=1..8: input(0, k) ; past(0, 3) = 8
            told(7) = 60 ; log(0, 0) = 4 ; logged(0, 1) = 1 ; log(3, 0) = 7 ; log(4, 0) = 0 ; logged(4, 1) = 2
            log(59, 0) = 7 ; log(0, 1) = 3
            log(4, 1) = 0
            """);
    }

    private static void logged() {
        due("27: NO: i", """
            logged(0, 0) = NO ; watch(0, 0, 0) ; input(0, 1) ; logged(0, 1) = 1 ; logged(1, 1) = NO
            logged(-1, 1) = NO ; logged(IMAX, 1) = NO ; logged(IMIN, 1) = NO
            """);
        due("27: NO: what", """
            input(0, 5) ; watch(0, 0, 0) ; input(0, 1) ; logged(0, 0) = 5 ; logged(0, -1) = NO ; logged(0, 2) = NO
            logged(0, IMAX) = NO ; logged(0, IMIN) = NO
            """);
        due("27: NO: an ERROR", """
            watch(0, 0, 0) ; input(0, 5) ; logged(0, 0) = NO ; logged(0, 1) = 5 ; drop(0) ; logged(1, 0) = 5
            logged(1, 1) = NO
            """);
        due("27: what it was then", """
            watch(0, 0, 0) ; input(0, MAX) ; input(0, MIN) ; input(0, 3) ; logged(1, 0) = MAX ; logged(1, 1) = MIN
            log(1, 2) = 0 ; logged(2, 0) = MIN ; logged(2, 1) = 3
            """);
    }

    private static void told() {
        due("28: NONE", """
            told(-1) = -1 ; told(13) = -1 ; told(IMAX) = -1 ; told(IMIN) = -1 ; told(14) = -1 ; told(100) = -1
            """);
        due("28: 0 INPUTS, 1 FORMULAS", """
            input(0, 1) ; input(1, 1) ; "1" define(2) ; told(0) = 2 ; told(1) = 1 ; "1" define(0) ; told(0) = 1
            told(1) = 2 ; drop(0) ; drop(1) ; drop(2) ; told(0) = 0 ; told(1) = 0
            """);
        due("28: 0 INPUTS, 1 FORMULAS: 32", """
            k=0..31: input(k, 1)
            told(0) = 32 ; told(1) = 0
            k=0..31: "5" define(k)
            told(0) = 0 ; told(1) = 32 ; told(4) = 32
            """);
        due("28: 4 all RUNS", """
            input(0, 1) ; "#0" define(1) ; "#0" define(2) ; input(0, 2) ; told(4) = 4 ; "#0" define(1) ; told(4) = 3
            drop(2) ; told(4) = 1 ; freeze(1) ; told(4) = 0
            """);
        due("28: 6 WATCHERS", "watch(0, 0, 0) ; watch(0, 0, 0) ; told(6) = 2 ; watch(0, 4, 0) ; told(6) = 2");
        due("28: 7 THE LOG", "told(7) = 0 ; watch(0, 0, 0) ; input(0, 1) ; told(7) = 1 ; input(0, 1) ; told(7) = 1");
        due("28: 8 1 there is a BATCH, 9 CELLS that it tells", """
            told(8) = 0 ; told(9) = 0 ; begin() ; told(8) = 1 ; told(9) = 0 ; input(0, 1) ; told(9) = 1 ; end()
            told(8) = 0 ; told(9) = 0
            """);
        due("28: 10 bytes of THE TAPE, 11 of THE PAPER", """
            told(10) = 0 ; told(11) = 0 ; "1+1" told(10) = 3 ; define(0) ; told(10) = 0 ; spell(0) ; told(11) = 3
            """);
        due("28: 12 the greatest HEIGHT", """
            told(12) = 0 ; input(0, 1) ; told(12) = 0 ; "1" define(1) ; told(12) = 1 ; "#1" define(2) ; told(12) = 2
            drop(1) ; told(12) = 1 ; drop(2) ; told(12) = 0
            """);
    }

    private static void toldOfWaves() {
        due("28: 2 RAN in the latest WAVE, 3 were CHANGED in it", """
            told(2) = 0 ; told(3) = 0 ; input(0, 1) ; told(2) = 0 ; told(3) = 1 ; "#0*0" define(1) ; told(2) = 1
            told(3) = 1 ; input(0, 2)
            told(2) = 1 ; told(3) = 1 ; input(0, 2) ; told(2) = 0 ; told(3) = 0
            """);
        due("28: 5 WAVES (refused ones don't count)", """
            told(5) = 0 ; input(0, 1) ; told(5) = 1 ; input(32, 1) ; "#1" define(1) ; "x" define(1) ; told(5) = 1
            drop(9) ; told(5) = 2
            begin() ; input(0, 5) ; input(1, 5) ; told(5) = 2 ; cancel() ; told(5) = 2 ; begin() ; input(0, 5)
            input(1, 5) ; end() ; told(5) = 3
            whatIf(0, 1, 1) ; would(0, 1) ; seek(0, 1, 12, 1, 99) ; watch(0, 0, 0) ; image() ; undo() ; told(5) = 3
            list(0, 1) ; pour(0, 0, 0, 1) ; told(5) = 4 ; pour(0, 0, 0, 2) ; told(5) = 4 ; freeze(0) ; copy(0, 1)
            told(5) = 4
            """);
    }

    private static void past() {
        due("29: NONE: i", """
            past(0, 0) = -1 ; input(0, 1) ; past(0, 0) = 1 ; past(1, 0) = -1 ; past(-1, 0) = -1 ; past(IMAX, 0) = -1
            past(IMIN, 0) = -1
            """);
        due("29: NONE: what", """
            input(0, 1) ; past(0, -1) = -1 ; past(0, 4) = -1 ; past(0, IMAX) = -1 ; past(0, IMIN) = -1
            past(0, 3) = 0
            """);
        due("29: NONE: not of the next one's", """
            input(0, 1) ; begin() ; input(0, 2) ; input(1, 2) ; end() ; past(0, 4) = -1 ; past(1, -1) = -1
            past(1, 4) = -1 ; past(0, -1) = -1 ; past(1, 0) = 1 ; past(0, 0) = 2
            """);
        due("29: told, RAN, CHANGED, how often a WATCHER told", """
            input(0, 1) ; "#0" define(1) ; "#0*0" define(2) ; watch(1, 0, 0) ; watch(0, 0, 0) ; watch(2, 0, 0)
            begin() ; input(0, 2) ; input(9, 9) ; drop(8) ; end() = 2
            past(0, 0) = 3 ; past(0, 1) = 2 ; past(0, 2) = 3 ; past(0, 3) = 2
            """);
        due("29: refused ones don't count", """
            input(0, 1) ; "#1" define(1) ; past(0, 0) = 1 ; past(1, 0) = -1 ; begin() ; input(1, 1) ; "#2" define(2)
            end() = -7 ; past(0, 0) = 1 ; past(1, 0) = -1
            """);
    }

    private static void pastOfTwenty() {
        due("29: 20 at most: just 20", """
            k=1..20: input(0, k) ; past(k-1, 0) = 1 ; past(k, 0) = -1
            past(19, 2) = 1 ; past(20, 2) = -1 ; told(5) = 20
            """);
        due("29: 20 at most: the oldest goes", """
            begin() ; input(0, 0) ; input(1, 0) ; end()
            k=1..19: input(0, k)
            past(19, 0) = 2 ; past(20, 0) = -1 ; input(0, 20) ; past(19, 0) = 1 ; past(20, 0) = -1 ; told(5) = 21
            past(18, 0) = 1
            """);
        due("29: 0 the latest", """
            input(0, 1) ; begin() ; drop(0) ; drop(1) ; end() ; begin() ; end() ; past(0, 0) = 0 ; past(1, 0) = 2
            past(2, 0) = 1 ; past(3, 0) = -1
            """);
        due("29: 20 at most: of many", """
            k=1..100: begin() ; input(0, k) ; input(1, k) ; end()
            input(0, 0) ; past(0, 0) = 1
            k=1..19: past(k, 0) = 2
            past(20, 0) = -1 ; told(5) = 101
            """);
    }
}
