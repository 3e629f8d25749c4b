import java.lang.reflect.InvocationTargetException;
import java.lang.reflect.Method;
import java.lang.reflect.Modifier;
import java.util.Arrays;

/**
 * A run of calls told as lines, on a new sheet, each with the answer that is due:
 *
 *     input(0, 5) = 0 ; "#0+1" define(1) = 1        calls of one line are parted by " ; "; a text is fed ahead of its call
 *     k=0..59: input(0, k+1) = 0                    a line that is done for each k
 *     reads(1) = "0"                                what Check and this class put together: reads, order, why, way,
 *                                                   spelling, paper, row, all as texts
 *
 * Numbers may be NO, MAX, MIN (of longs), IMAX, IMIN (of ints), k, and sums of these. A call without a due answer is
 * only done.
 */
final class Lines {
    /** What later calls answer is free, so that a run must not lean on them. */
    private static final int MOST_CALLS = 512;

    private final Check check;
    private final String sentence;
    final ReactiveSheet sheet = new ReactiveSheet();
    private int calls = 0;
    private long k = 0;

    private Lines(Check check, String sentence) {
        this.check = check;
        this.sentence = sentence;
    }

    /** Does a run, by which a sentence of the document is held. */
    static Lines run(Check check, String sentence, String lines) {
        Lines run = new Lines(check, sentence);
        for (String line : lines.split("\n")) {
            if (!line.isBlank()) {
                run.line(line.trim());
            }
        }
        check.due(sentence + ": more than " + MOST_CALLS + " calls", run.calls > MOST_CALLS ? 1 : 0, 0);
        return run;
    }

    private void line(String line) {
        long from = 0;
        long to = 0;
        String rest = line;
        if (line.startsWith("k=")) {
            int colon = line.indexOf(": ");
            String[] ends = line.substring(2, colon).split("\\.\\.");
            from = Long.parseLong(ends[0]);
            to = Long.parseLong(ends[1]);
            rest = line.substring(colon + 2);
        }
        for (k = from; k <= to; k++) {
            for (String one : rest.split(" ; ")) {
                one(one.trim());
            }
        }
    }

    private void one(String text) {
        String call = text;
        if (call.startsWith("\"")) {
            int end = call.indexOf('"', 1);
            calls += end;
            Check.type(sheet, call.substring(1, end));
            call = call.substring(end + 1).trim();
        }
        if (call.isEmpty()) {
            return;
        }
        int open = call.indexOf('(');
        int close = call.indexOf(')', open);
        String name = call.substring(0, open);
        String inner = call.substring(open + 1, close).trim();
        String[] told = inner.isEmpty() ? new String[0] : inner.split(",");
        long[] numbers = new long[told.length];
        for (int i = 0; i < told.length; i++) {
            numbers[i] = number(told[i].trim());
        }
        int equal = call.indexOf(" = ", close);
        String due = equal < 0 ? null : call.substring(equal + 3).trim();
        String what = sentence + ": " + text + (text.contains("k") ? " with k " + k : "");
        if (due != null && due.startsWith("\"")) {
            check.due(what, '"' + together(name, numbers) + '"', due);
        } else {
            long answer = answer(name, numbers);
            if (due != null) {
                check.due(what, answer, number(due));
            }
        }
    }

    /** A sum of numbers, signs and names. */
    private long number(String text) {
        long sum = 0;
        int at = 0;
        while (at < text.length()) {
            boolean minus = text.charAt(at) == '-';
            if (minus || text.charAt(at) == '+') {
                at++;
            }
            int end = at;
            while (end < text.length() && text.charAt(end) != '+' && text.charAt(end) != '-') {
                end++;
            }
            long one = single(text.substring(at, end));
            sum += minus ? -one : one;
            at = end;
        }
        return sum;
    }

    private long single(String text) {
        switch (text) {
            case "NO": return ReactiveSheet.NO;
            case "MAX": return Long.MAX_VALUE;
            case "MIN": return Long.MIN_VALUE;
            case "IMAX": return Integer.MAX_VALUE;
            case "IMIN": return Integer.MIN_VALUE;
            case "k": return k;
            default: return Long.parseLong(text);
        }
    }

    private long answer(String name, long[] numbers) {
        for (Method method : ReactiveSheet.class.getDeclaredMethods()) {
            if (method.getName().equals(name) && method.getParameterCount() == numbers.length
                    && Modifier.isPublic(method.getModifiers())) {
                Object[] given = new Object[numbers.length];
                for (int i = 0; i < numbers.length; i++) {
                    boolean whole = method.getParameterTypes()[i] == long.class;
                    given[i] = whole ? (Object) numbers[i] : (Object) Math.toIntExact(numbers[i]);
                }
                calls++;
                try {
                    return ((Number) method.invoke(sheet, given)).longValue();
                } catch (IllegalAccessException | InvocationTargetException wrong) {
                    throw new IllegalStateException(sentence + ": " + name, wrong);
                }
            }
        }
        throw new IllegalStateException(sentence + ": no call " + name);
    }

    private String together(String name, long[] numbers) {
        switch (name) {
            case "spelling":
                calls++;
                return counted(Check.spelling(sheet, (int) numbers[0]));
            case "paper": return counted(Check.paper(sheet));
            case "reads":
            case "why":
            case "way":
            case "order": return row(name, numbers, -1);
            case "row": return row("get", numbers, ReactiveSheet.NO);
            default: throw new IllegalStateException(sentence + ": no texts by " + name);
        }
    }

    private String counted(String text) {
        calls += 2 * text.length() + 1;
        return text;
    }

    /** The answers for 0, 1 and so on, till one is the end. */
    private String row(String name, long[] ahead, long end) {
        long[] given = Arrays.copyOf(ahead, ahead.length + 1);
        StringBuilder text = new StringBuilder();
        long one = answer(name, given);
        for (int i = 1; i <= MOST_CALLS && one != end; i++) {
            text.append(i == 1 ? "" : " ").append(one);
            given[ahead.length] = i;
            one = answer(name, given);
        }
        return text.toString();
    }
}
