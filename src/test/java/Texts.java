import java.util.ArrayList;
import java.util.List;

/**
 * Formulas as texts, looked at in another way than the program does: a stack of what is still expected tells the fault,
 * and a text is taken apart at its outermost sign, again and again.
 */
final class Texts {
    /** What a formula is worked out with. */
    interface Source {
        /** The number of a cell; an error is thrown. */
        long come(int cell);
    }

    static final class Erring extends RuntimeException {
        final int error;

        Erring(int error) {
            super(null, null, false, false);
            this.error = error;
        }
    }

    private Texts() {
    }

    // ---- faults

    /** The fault of a text, or -1. */
    static int fault(String text) {
        List<String> expected = new ArrayList<>();
        expected.add("E0");
        int at = 0;
        int from = 0;
        while (!expected.isEmpty()) {
            String next = expected.remove(expected.size() - 1);
            char letter = at < text.length() ? text.charAt(at) : 0;
            String instead = unfold(next, letter);
            if (instead != null) {
                String[] parts = instead.isEmpty() ? new String[0] : instead.split(" ");
                for (int i = parts.length - 1; i >= 0; i--) {
                    expected.add(parts[i]);
                }
                continue;
            }
            if (next.startsWith("N")) {
                int most = next.equals("N9") ? 9 : 2;
                int end = at;
                while (end < text.length() && end < at + most && Character.isDigit(text.charAt(end))) {
                    end++;
                }
                if (end == at) {
                    return at;
                }
                long number = Long.parseLong(text.substring(at, end));
                if (!next.equals("N9") && (number > 31 || next.equals("Nm") && number < from)) {
                    return at;
                }
                from = (int) number;
                at = end;
            } else if (letter != 0 && next.length() == 1 && next.charAt(0) == letter) {
                at++;
            } else {
                return at;
            }
        }
        return at < text.length() ? at : -1;
    }

    /** What stands for a part, when a letter is next: null, if the part is a letter or a number, or nothing fits. */
    private static String unfold(String part, char letter) {
        if (part.length() < 2 || part.charAt(0) == 'N') {
            return null;
        }
        String deep = part.substring(1);
        String deeper = Integer.toString(Integer.parseInt(deep) + 1);
        switch (part.charAt(0)) {
            case 'E': return "C" + deep + " e" + deep;
            case 'e': return letter == '?' ? "? C" + deep + " : E" + deep : "";
            case 'C': return "S" + deep + " c" + deep;
            case 'c': return "<=>".indexOf(letter) >= 0 && letter != 0 ? letter + " S" + deep : "";
            case 'S': return "T" + deep + " t" + deep;
            case 't': return letter == '+' || letter == '-' ? letter + " T" + deep + " t" + deep : "";
            case 'T': return "F" + deep + " f" + deep;
            case 'f': return letter == '*' || letter == '/' ? letter + " F" + deep + " f" + deep : "";
            default: break;
        }
        if (letter >= '0' && letter <= '9') {
            return "N9";
        }
        if (letter == '#') {
            return "# Nn";
        }
        if (letter == 's') {
            return "s Nn - Nm";
        }
        if (deep.equals("3")) {
            return null;
        }
        switch (letter) {
            case '(': return "( E" + deeper + " )";
            case '-': return "- F" + deeper;
            case '@': return "@ F" + deeper;
            case '!': return "! F" + deeper;
            case 'l': return "l ( E" + deeper + " , E" + deeper + " )";
            case 'g': return "g ( E" + deeper + " , E" + deeper + " )";
            default: return null;
        }
    }

    // ---- taking apart

    /** Of each place of a text within how many brackets it stands, -1 for signs that part nothing. */
    private static int[] levels(String text) {
        int[] levels = new int[text.length()];
        int level = 0;
        boolean sum = false;
        for (int i = 0; i < text.length(); i++) {
            char letter = text.charAt(i);
            if (letter == ')') {
                level--;
            }
            levels[i] = level;
            if (letter == '(') {
                level++;
            }
            if (letter == 's') {
                sum = true;
            }
            if (letter == '-') {
                char ahead = i == 0 ? '(' : text.charAt(i - 1);
                boolean between = Character.isDigit(ahead) || ahead == ')';
                if (!between || sum) {
                    levels[i] = -1;
                }
                sum = false;
            }
        }
        return levels;
    }

    /** The sign at which a text is to be parted: its place, or -1. */
    private static int parting(String text) {
        int[] levels = levels(text);
        for (int i = 0; i < text.length(); i++) {
            if (levels[i] == 0 && text.charAt(i) == '?') {
                return i;
            }
        }
        for (int i = 0; i < text.length(); i++) {
            if (levels[i] == 0 && "<=>".indexOf(text.charAt(i)) >= 0) {
                return i;
            }
        }
        for (int i = text.length() - 1; i >= 0; i--) {
            if (levels[i] == 0 && (text.charAt(i) == '+' || text.charAt(i) == '-')) {
                return i;
            }
        }
        for (int i = text.length() - 1; i >= 0; i--) {
            if (levels[i] == 0 && (text.charAt(i) == '*' || text.charAt(i) == '/')) {
                return i;
            }
        }
        return -1;
    }

    private static int next(String text, char letter, int from) {
        int[] levels = levels(text);
        for (int i = from; i < text.length(); i++) {
            if (levels[i] == 0 && text.charAt(i) == letter) {
                return i;
            }
        }
        throw new IllegalStateException(text);
    }

    /** A text without a fault with brackets around all that has parts, and none else. */
    static String whole(String text) {
        int at = parting(text);
        if (at >= 0) {
            char sign = text.charAt(at);
            if (sign == '?') {
                int over = next(text, ':', at);
                return "[" + whole(text.substring(0, at)) + "?" + whole(text.substring(at + 1, over)) + ":"
                        + whole(text.substring(over + 1)) + "]";
            }
            return "[" + whole(text.substring(0, at)) + sign + whole(text.substring(at + 1)) + "]";
        }
        char first = text.charAt(0);
        switch (first) {
            case '(': return whole(text.substring(1, text.length() - 1));
            case '-':
            case '@':
            case '!': return "[" + first + whole(text.substring(1)) + "]";
            case 'l':
            case 'g':
                String inner = text.substring(2, text.length() - 1);
                int comma = next(inner, ',', 0);
                return "[" + first + whole(inner.substring(0, comma)) + "," + whole(inner.substring(comma + 1)) + "]";
            case '#':
            case 's': return text;
            default: return Long.toString(Long.parseLong(text));
        }
    }

    /** Brackets are taken away as long as the text is read the same way without them. */
    static String spelling(String text) {
        String short1 = text.replaceAll("(?<![0-9])0+(?=[0-9])", "");
        String whole = whole(short1);
        boolean again = true;
        while (again) {
            again = false;
            for (int i = 0; i < short1.length() && !again; i++) {
                if (short1.charAt(i) != '(' || i > 0 && (short1.charAt(i - 1) == 'l' || short1.charAt(i - 1) == 'g')) {
                    continue;
                }
                int close = i;
                int level = 0;
                do {
                    level += short1.charAt(close) == '(' ? 1 : short1.charAt(close) == ')' ? -1 : 0;
                    close++;
                } while (level > 0);
                String without = short1.substring(0, i) + short1.substring(i + 1, close - 1) + short1.substring(close);
                if (fault(without) < 0 && whole(without).equals(whole)) {
                    short1 = without;
                    again = true;
                }
            }
        }
        return short1;
    }

    /** A text with its cells so much further on, or null. */
    static String shifted(String text, int by) {
        StringBuilder out = new StringBuilder();
        int rest = 0;
        for (int i = 0; i < text.length(); i++) {
            char letter = text.charAt(i);
            out.append(letter);
            if (letter == '#') {
                rest = 1;
            }
            if (letter == 's') {
                rest = 2;
            }
            if (rest > 0 && i + 1 < text.length() && Character.isDigit(text.charAt(i + 1))) {
                int end = i + 1;
                while (end < text.length() && Character.isDigit(text.charAt(end))) {
                    end++;
                }
                int cell = Integer.parseInt(text.substring(i + 1, end)) + by;
                if (cell < 0 || cell > 31) {
                    return null;
                }
                out.append(cell);
                i = end - 1;
                rest--;
            }
        }
        return out.toString();
    }

    // ---- working out

    static long work(String text, Source source) {
        int at = parting(text);
        if (at >= 0) {
            char sign = text.charAt(at);
            long first = work(text.substring(0, at), source);
            if (sign == '?') {
                int over = next(text, ':', at);
                return work(first != 0 ? text.substring(at + 1, over) : text.substring(over + 1), source);
            }
            return combined(sign, first, work(text.substring(at + 1), source));
        }
        char first = text.charAt(0);
        switch (first) {
            case '(': return work(text.substring(1, text.length() - 1), source);
            case '-': return combined('-', 0, work(text.substring(1), source));
            case '@':
                long cell = work(text.substring(1), source);
                if (cell < 0 || cell > 31) {
                    throw new Erring(3);
                }
                return source.come((int) cell);
            case '!':
                try {
                    work(text.substring(1), source);
                    return 0;
                } catch (Erring error) {
                    return 1;
                }
            case 'l':
            case 'g':
                String inner = text.substring(2, text.length() - 1);
                int comma = next(inner, ',', 0);
                long one = work(inner.substring(0, comma), source);
                long other = work(inner.substring(comma + 1), source);
                return first == 'l' == one < other ? one : other;
            case '#': return source.come(Integer.parseInt(text.substring(1)));
            case 's':
                String[] ends = text.substring(1).split("-");
                long sum = 0;
                for (int i = Integer.parseInt(ends[0]); i <= Integer.parseInt(ends[1]); i++) {
                    sum = combined('+', sum, source.come(i));
                }
                return sum;
            default: return Long.parseLong(text);
        }
    }

    private static long combined(char sign, long a, long b) {
        if (sign == '/' && b == 0) {
            throw new Erring(2);
        }
        try {
            switch (sign) {
                case '+': return Math.addExact(a, b);
                case '-': return Math.subtractExact(a, b);
                case '*': return Math.multiplyExact(a, b);
                case '/': return a == Long.MIN_VALUE && b == -1 ? Math.negateExact(a) : a / b;
                case '<': return a < b ? 1 : 0;
                case '=': return a == b ? 1 : 0;
                default: return a > b ? 1 : 0;
            }
        } catch (ArithmeticException over) {
            throw new Erring(1);
        }
    }
}
