/** Promises 1 to 11. */
public final class TellingTest {
    public static void main(String[] args) {
        Check check = new Check("TellingTest");
        newObject(check);
        check.end();
    }

    private static void newObject(Check check) {
        ReactiveSheet sheet = new ReactiveSheet();
        for (int cell = 0; cell < 32; cell++) {
            check.due("of(" + cell + ", 0)", sheet.of(cell, 0), 0);
            check.due("of(" + cell + ", 1)", sheet.of(cell, 1), 3);
            check.due("of(" + cell + ", 8)", sheet.of(cell, 8), -5);
            check.due("value(" + cell + ")", sheet.value(cell), ReactiveSheet.NO);
        }
    }
}
