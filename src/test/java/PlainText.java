import java.util.ArrayList;
import java.util.List;

/** A seller's text: its fault by walking over it with what is open, its worth by cutting it at its weakest sign. */
final class PlainText {
    private PlainText() {
    }

    static int fault(String text) {
        StringBuilder open = new StringBuilder();
        List<Boolean> compared = new ArrayList<>();
        compared.add(false);
        boolean asked = false, wanted = true;
        int digits = 0;
        for (int i = 0; i < text.length(); i++) {
            char c = text.charAt(i);
            if (wanted) {
                if (c == '(' || c == '!' || c == '-') {
                    if (open.length() == 6) return i;
                    open.append(c);
                    if (c == '(') compared.add(false);
                    continue;
                }
                if ("pgnth".indexOf(c) < 0 && !(c >= '0' && c <= '9')) return i;
                digits = c >= '0' && c <= '9' ? 1 : 4;
                wanted = false;
                endSigns(open);
                continue;
            }
            if (c >= '0' && c <= '9') {
                if (digits == 4) return i;
                digits++;
                continue;
            }
            digits = 4;
            boolean inside = compared.size() > 1;
            if (c == ')') {
                if (!inside) return i;
                compared.remove(compared.size() - 1);
                open.setLength(open.length() - 1);
                endSigns(open);
                continue;
            }
            if (c == '<' || c == '=' || c == '>') {
                if (compared.get(compared.size() - 1)) return i;
                compared.set(compared.size() - 1, true);
            } else if (c == '|' || c == '&') {
                compared.set(compared.size() - 1, false);
            } else if (c == '?' || c == ';') {
                if (inside || c == '?' && asked) return i;
                asked = c == '?';
                compared.set(0, false);
            } else if ("+-*/%".indexOf(c) < 0) {
                return i;
            }
            wanted = true;
        }
        return wanted || compared.size() > 1 ? text.length() : -1;
    }

    private static void endSigns(StringBuilder open) {
        while (open.length() > 0 && open.charAt(open.length() - 1) != '(') open.setLength(open.length() - 1);
    }

    static int worth(String text, int p, int g, int n) {
        for (String line : text.split(";")) {
            String[] two = line.split("\\?");
            if (two.length == 1) return value(line, p, g, n);
            if (value(two[0], p, g, n) != 0) return value(two[1], p, g, n);
        }
        return 0;
    }

    private static int value(String e, int p, int g, int n) {
        for (String signs : new String[] {"|", "&", "<=>", "+-", "*/%"}) {
            int at = lastOf(e, signs);
            if (at > 0) return joined(value(e.substring(0, at), p, g, n), e.charAt(at), value(e.substring(at + 1), p, g, n));
        }
        switch (e.charAt(0)) {
            case '!': return value(e.substring(1), p, g, n) == 0 ? 1 : 0;
            case '-': return -value(e.substring(1), p, g, n);
            case '(': return value(e.substring(1, e.length() - 1), p, g, n);
            case 'p': return p;
            case 'g': return g;
            case 'n': return n;
            case 't': return p % 10;
            case 'h': return p / 100;
            default: return Integer.parseInt(e);
        }
    }

    /** The last of the signs outside ( ) that stands between two. */
    private static int lastOf(String e, String signs) {
        int deep = 0;
        for (int i = e.length() - 1; i > 0; i--) {
            char c = e.charAt(i);
            if (c == ')') deep++;
            if (c == '(') deep--;
            boolean between = "|&<=>+-*/%!(".indexOf(e.charAt(i - 1)) < 0;
            if (deep == 0 && between && signs.indexOf(c) >= 0) return i;
        }
        return -1;
    }

    private static int joined(int a, char sign, int b) {
        switch (sign) {
            case '|': return a != 0 || b != 0 ? 1 : 0;
            case '&': return a != 0 && b != 0 ? 1 : 0;
            case '<': return a < b ? 1 : 0;
            case '=': return a == b ? 1 : 0;
            case '>': return a > b ? 1 : 0;
            case '+': return a + b;
            case '-': return a - b;
            case '*': return a * b;
            case '/': return b == 0 ? 0 : a / b;
            default: return b == 0 ? 0 : a % b;
        }
    }
}
