/** All that a sheet tells of itself, as one text: to see that a call changed nothing. */
final class Look {
    private final ReactiveSheet sheet;
    private final StringBuilder text = new StringBuilder();

    private Look(ReactiveSheet sheet) {
        this.sheet = sheet;
    }

    /**
     * Looks at the sheet, which is used up by that: what a batch tells, what the tape holds and what the image is can
     * only be seen by ending, reading and undoing. Just some cells are looked at, as a sheet has only 512 calls.
     */
    static String at(ReactiveSheet sheet) {
        Look look = new Look(sheet);
        look.sheetItself();
        look.cells();
        look.logAndPast();
        look.lists();
        look.paper();
        look.within();
        return look.text.toString();
    }

    /** The first of what was seen that is otherwise in two looks, or nothing. */
    static String otherwise(String one, String twin) {
        String[] seen = one.split(" ");
        String[] due = twin.split(" ");
        for (int i = 0; i < seen.length && i < due.length; i++) {
            if (!seen[i].equals(due[i])) {
                return seen[i] + " instead of " + due[i];
            }
        }
        return "";
    }

    private void put(String name, long answer) {
        text.append(name).append('=').append(answer).append(' ');
    }

    private void sheetItself() {
        for (int what = 0; what <= 12; what++) {
            put("told" + what, sheet.told(what));
        }
        for (int i = 0; i < 8; i++) {
            put("order" + i, sheet.order(i));
        }
    }

    private void cells() {
        for (int cell : new int[] {0, 1, 2, 3, 5, 31}) {
            for (int what = 0; what <= 9; what++) {
                put("of" + cell + "," + what, sheet.of(cell, what));
            }
            put("value" + cell, sheet.value(cell));
            put("readers" + cell, sheet.readers(cell));
            put("reads" + cell, sheet.reads(cell, 0));
            put("why" + cell, sheet.why(cell, 1));
        }
    }

    private void logAndPast() {
        for (int i = 0; i < 2; i++) {
            for (int what = 0; what < 3; what++) {
                put("log" + i + "," + what, sheet.log(i, what));
                put("past" + i + "," + what, sheet.past(i, what));
            }
            put("was" + i, sheet.logged(i, 0));
            put("is" + i, sheet.logged(i, 1));
        }
    }

    private void lists() {
        for (int list = 0; list < 4; list++) {
            for (int i = 0; i < 4; i++) {
                put("get" + list + "," + i, sheet.get(list, i));
            }
        }
    }

    private void paper() {
        for (int i = 0; i < 6; i++) {
            put("paper" + i, sheet.paper(i));
        }
    }

    private void within() {
        put("end", sheet.end());
        put("ran", sheet.told(2));
        for (int cell = 0; cell < 5; cell++) {
            put("then" + cell, sheet.value(cell));
        }
        put("quit", sheet.quit(0));
        put("define", sheet.define(30));
        put("spell", sheet.spell(30));
        put("undo", sheet.undo());
        for (int cell = 0; cell < 5; cell++) {
            put("back" + cell, sheet.value(cell));
        }
        put("quit", sheet.quit(0));
    }
}
