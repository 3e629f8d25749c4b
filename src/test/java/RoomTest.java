import java.lang.management.ManagementFactory;

/**
 * What 512 calls on one object make, in bytes, must stay small: one room of 600,000 objects holds them all. An element
 * has 4 bytes or more, and an object 16 or more, so that bytes bound both.
 */
public final class RoomTest {
    private static final int CALLS = 512;
    private static int wrong = 0;

    private static long bytes() {
        com.sun.management.ThreadMXBean threads = (com.sun.management.ThreadMXBean) ManagementFactory.getThreadMXBean();
        return threads.getThreadAllocatedBytes(Thread.currentThread().getId());
    }

    private static void due(String what, long made, long most) {
        System.out.println(what + ": " + made + " bytes");
        if (made > most) {
            wrong++;
            System.out.println(what + " made more than " + most);
        }
    }

    public static void main(String[] args) {
        ReactiveSheet first = new ReactiveSheet();
        chain(first);
        bytes();
        long from = bytes();
        ReactiveSheet sheet = new ReactiveSheet();
        due("a new object", bytes() - from, 160_000);
        chain(sheet);
        from = bytes();
        for (int i = 0; i < CALLS; i++) {
            sheet.input(31, i);
        }
        due("input through 31 formulas", bytes() - from, 1000);
        from = bytes();
        for (int i = 0; i < CALLS; i++) {
            sheet.seek(31, i, 12, 0, Long.MAX_VALUE);
        }
        due("seek through 31 formulas", bytes() - from, 1000);
        asking(sheet);
        lists(sheet);
        copies();
        System.out.println("RoomTest: " + wrong + " not as due");
        if (wrong > 0) {
            System.exit(1);
        }
    }

    private static void chain(ReactiveSheet sheet) {
        for (int cell = 30; cell >= 0; cell--) {
            Check.define(sheet, cell, "#" + (cell + 1) + "+s" + (cell + 1) + "-31-s" + (cell + 1) + "-31");
        }
    }

    private static void asking(ReactiveSheet sheet) {
        long from = bytes();
        for (int i = 0; i < CALLS; i++) {
            sheet.spell(0);
            sheet.way(31, 0, 1);
            sheet.why(0, 3);
            sheet.order(31);
            sheet.of(31, 9);
            sheet.whatIf(31, i, 0);
            sheet.paper(1);
            sheet.told(4);
        }
        due("asking", bytes() - from, 1000);
    }

    private static void lists(ReactiveSheet sheet) {
        long from = bytes();
        for (int i = 0; i < CALLS; i++) {
            sheet.list(i % 4, 40);
            sheet.fill(i % 4, 0, 0, 32);
            sheet.pour(i % 4, 0, 31, 1);
            sheet.move(i % 4, 0, i % 4, 8, 32);
            sheet.image();
            sheet.undo();
        }
        due("lists and the image", bytes() - from, 1000);
    }

    /** The dearest call: each makes a formula anew. */
    private static void copies() {
        ReactiveSheet sheet = new ReactiveSheet();
        StringBuilder text = new StringBuilder();
        for (int i = 0; i < 29; i++) {
            text.append("1?1:");
        }
        Check.define(sheet, 0, text + "#1");
        long from = bytes();
        for (int i = 0; i < CALLS; i++) {
            sheet.copy(i % 2, 1 - i % 2);
        }
        due("copies of the longest formula", bytes() - from, 1_000_000);
    }
}
