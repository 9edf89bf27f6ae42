import java.util.ArrayDeque;
import java.util.ArrayList;
import java.util.Deque;
import java.util.List;
import java.util.Map;

/** A second reading of TEXTS: faults by a machine with a stack of what is open, values by splitting the text. */
final class SlowText {
    private static final class Refused extends RuntimeException {
        private static final long serialVersionUID = 1L;
    }

    private enum Mode { LETTER, OPERAND, NUMBER, AFTER_OPERAND, PIECE, AFTER_PIECE, AFTER_CLAUSE }

    private enum Part { HEAD, LEFT, RIGHT }

    private final Deque<Character> open = new ArrayDeque<>();
    private Mode mode = Mode.LETTER;
    private Part part = Part.HEAD;
    private int digits;
    private int clauses;

    private SlowText() {
    }

    static int read(String text, String starts) {
        SlowText machine = new SlowText();
        for (int i = 0; i < text.length(); i++) {
            int fault = machine.step(text.charAt(i), starts);
            if (fault != 0) {
                return -1000 * fault - i;
            }
        }
        return machine.mode == Mode.AFTER_CLAUSE ? machine.clauses : -1000 - text.length();
    }

    private int step(char c, String starts) {
        switch (mode) {
            case LETTER:
                return letter(c, starts);
            case PIECE:
                return piece(c);
            case OPERAND:
                return operand(c);
            case NUMBER:
                if (c >= '0' && c <= '9') {
                    digits++;
                    return digits > 5 ? 2 : 0;
                }
                return afterOperand(c);
            case AFTER_OPERAND:
                return afterOperand(c);
            case AFTER_PIECE:
                return afterPiece(c);
            default:
                mode = Mode.LETTER;
                return c == ';' ? 0 : 1;
        }
    }

    private int letter(char c, String starts) {
        if (starts.indexOf(c) < 0) {
            return 1;
        }
        clauses++;
        mode = Mode.OPERAND;
        part = Part.HEAD;
        return clauses > 14 ? 4 : 0;
    }

    private int push(char c) {
        open.push(c);
        return open.size() > 6 ? 5 : 0;
    }

    private int piece(char c) {
        if (c == '!' || c == '(') {
            return push(c);
        }
        part = Part.LEFT;
        return operand(c);
    }

    private int operand(char c) {
        mode = Mode.OPERAND;
        if (c == '[') {
            return push(c);
        }
        if (c >= '0' && c <= '9') {
            mode = Mode.NUMBER;
            digits = 1;
            return 0;
        }
        mode = Mode.AFTER_OPERAND;
        return "fsdnckyzmxtvw".indexOf(c) < 0 ? 1 : 0;
    }

    private int afterOperand(char c) {
        mode = Mode.OPERAND;
        if ("+-*/%".indexOf(c) >= 0) {
            return 0;
        }
        if (!open.isEmpty() && open.peek() == '[') {
            open.pop();
            mode = Mode.AFTER_OPERAND;
            return c == ']' ? 0 : 1;
        }
        if (part == Part.HEAD) {
            mode = Mode.PIECE;
            return c == '(' ? push('K') : 1;
        }
        if (part == Part.LEFT) {
            part = Part.RIGHT;
            return "<>=".indexOf(c) >= 0 ? 0 : 1;
        }
        return afterPiece(c);
    }

    private int afterPiece(char c) {
        while (open.peek() == '!') {
            open.pop();
        }
        if (c == '&' || c == '|') {
            mode = Mode.PIECE;
            return 0;
        }
        mode = open.pop() == 'K' ? Mode.AFTER_CLAUSE : Mode.AFTER_PIECE;
        return c == ')' ? 0 : 1;
    }

    /** The value of a letter by a text without faults. */
    static int value(String text, char letter, Map<Character, Integer> letters, int least, int most) {
        if (text.isEmpty()) {
            return 0;
        }
        for (String clause : text.split(";")) {
            int from = clause.indexOf('(');
            if (clause.charAt(0) == letter && holds(clause.substring(from + 1, clause.length() - 1), letters)) {
                try {
                    return Math.max(least, Math.min(most, number(clause.substring(1, from), letters)));
                } catch (Refused refused) {
                    return 0;
                }
            }
        }
        return 0;
    }

    private static boolean holds(String c, Map<Character, Integer> letters) {
        try {
            return any(c, letters);
        } catch (Refused refused) {
            return false;
        }
    }

    private static List<String> split(String text, char sign) {
        List<String> parts = new ArrayList<>();
        int depth = 0;
        int from = 0;
        for (int i = 0; i < text.length(); i++) {
            char c = text.charAt(i);
            depth += c == '(' || c == '[' ? 1 : c == ')' || c == ']' ? -1 : 0;
            if (depth == 0 && c == sign) {
                parts.add(text.substring(from, i));
                from = i + 1;
            }
        }
        parts.add(text.substring(from));
        return parts;
    }

    private static boolean any(String c, Map<Character, Integer> letters) {
        for (String one : split(c, '|')) {
            if (all(one, letters)) {
                return true;
            }
        }
        return false;
    }

    private static boolean all(String c, Map<Character, Integer> letters) {
        for (String one : split(c, '&')) {
            if (!piece(one, letters)) {
                return false;
            }
        }
        return true;
    }

    private static boolean piece(String c, Map<Character, Integer> letters) {
        if (c.startsWith("!")) {
            return !piece(c.substring(1), letters);
        }
        if (c.startsWith("(")) {
            return any(c.substring(1, c.length() - 1), letters);
        }
        for (char sign : new char[] {'<', '>', '='}) {
            if (c.indexOf(sign) >= 0) {
                int at = c.indexOf(sign);
                int left = number(c.substring(0, at), letters);
                int right = number(c.substring(at + 1), letters);
                return sign == '<' ? left < right : sign == '>' ? left > right : left == right;
            }
        }
        throw new IllegalStateException(c);
    }

    private static int lastOf(String e, String signs) {
        int depth = 0;
        for (int i = e.length() - 1; i >= 0; i--) {
            char c = e.charAt(i);
            depth += c == ']' ? 1 : c == '[' ? -1 : 0;
            if (depth == 0 && signs.indexOf(c) >= 0) {
                return i;
            }
        }
        return -1;
    }

    private static int number(String e, Map<Character, Integer> letters) {
        int at = lastOf(e, "+-");
        at = at >= 0 ? at : lastOf(e, "*/%");
        if (at >= 0) {
            int left = number(e.substring(0, at), letters);
            int right = number(e.substring(at + 1), letters);
            return reckon(e.charAt(at), left, right);
        }
        if (e.startsWith("[")) {
            return number(e.substring(1, e.length() - 1), letters);
        }
        return Character.isDigit(e.charAt(0)) ? Integer.parseInt(e) : letters.getOrDefault(e.charAt(0), 0);
    }

    private static int reckon(char sign, int left, int right) {
        if ((sign == '/' || sign == '%') && right == 0) {
            throw new Refused();
        }
        long a = left;
        long b = right;
        return (int) (sign == '+' ? a + b : sign == '-' ? a - b : sign == '*' ? a * b : sign == '/' ? a / b : a % b);
    }
}
