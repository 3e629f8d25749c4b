/** What tests share: telling texts to a sheet, and counting answers that are not as due. */
final class Check {
    private final String name;
    private int checks = 0;
    private int wrong = 0;

    Check(String name) {
        this.name = name;
    }

    void due(String call, long got, long want) {
        checks++;
        if (got != want) {
            wrong++;
            System.out.println(call + " answered " + got + ", due is " + want);
        }
    }

    void due(String call, String got, String want) {
        checks++;
        if (!got.equals(want)) {
            wrong++;
            System.out.println(call + " answered " + got + ", due is " + want);
        }
    }

    /** Tells how it went, and ends the program with 1, if an answer was wrong. */
    void end() {
        System.out.println(name + ": " + checks + " answers, " + wrong + " not as due");
        if (wrong > 0 || checks == 0) {
            System.exit(1);
        }
    }

    /** Feeds a text; the answer to the last byte. */
    static int type(ReactiveSheet sheet, String text) {
        int count = sheet.told(10);
        for (int i = 0; i < text.length(); i++) {
            count = sheet.feed(text.charAt(i));
        }
        return count;
    }

    static int define(ReactiveSheet sheet, int cell, String text) {
        type(sheet, text);
        return sheet.define(cell);
    }

    static String paper(ReactiveSheet sheet) {
        StringBuilder text = new StringBuilder();
        for (int i = 0; sheet.paper(i) >= 0; i++) {
            text.append((char) sheet.paper(i));
        }
        return text.toString();
    }

    static String spelling(ReactiveSheet sheet, int cell) {
        int answer = sheet.spell(cell);
        String text = paper(sheet);
        return answer == text.length() ? text : answer + " for " + text;
    }

    static String reads(ReactiveSheet sheet, int cell) {
        StringBuilder text = new StringBuilder();
        for (int i = 0; sheet.reads(cell, i) >= 0; i++) {
            text.append(i == 0 ? "" : " ").append(sheet.reads(cell, i));
        }
        return text.toString();
    }
}
