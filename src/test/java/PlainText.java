import java.util.ArrayList;
import java.util.List;

/** A text read in another way than the program's: faults by what may follow what, values by splitting at the weakest sign. */
final class PlainText {
    private static final List<String> KEYS = List.of("suits", "likes", "tires", "or", "and", "not");
    private static final List<String> NAMES = List.of("mark", "need", "which", "year", "hired", "more");
    private static final List<String> PARTS = List.of("suits", "likes", "tires");

    private final List<String> tokens = new ArrayList<>();
    private final List<Integer> places = new ArrayList<>();
    private final int[] from = new int[3];
    private final int[] to = new int[3];
    final int fault;

    PlainText(String text) {
        int stop = tokenize(text);
        int first = firstThatCannotStand();
        fault = first < 0 ? -1 : first < places.size() ? places.get(first) : stop;
    }

    /** Where the tokens end: at the text's end, or at what is no token, behind which a token stands that nothing allows. */
    private int tokenize(String text) {
        int i = 0;
        while (i < text.length()) {
            char c = text.charAt(i);
            if (c == ' ' || c == '\n') {
                i++;
                continue;
            }
            String token = text.substring(i).replaceFirst("(?s)^([a-z]+|[0-9]+|[();+*<=-]|.).*$", "$1");
            boolean isKnown = token.matches("[a-z]+") ? KEYS.contains(token) || NAMES.contains(token)
                : token.matches("[0-9]{1,4}|[();+*<=-]");
            tokens.add(isKnown ? token : "?");
            places.add(i);
            if (!isKnown) {
                break;
            }
            i += token.length();
        }
        return text.length();
    }

    private int firstThatCannotStand() {
        int at = 0;
        for (int part = 0; part < 3; part++) {
            if (at >= tokens.size() || !tokens.get(at).equals(PARTS.get(part))) {
                return at;
            }
            at++;
            from[part] = at;
            int end = endOfE(at);
            if (end < 0) {
                return -1 - end;
            }
            to[part] = end;
            at = end + 1;
        }
        return at < tokens.size() ? at : -1;
    }

    /** The place of the ; behind an E, or -1 less the place of the token that can't stand there. */
    private int endOfE(int start) {
        List<String> open = new ArrayList<>();
        List<Boolean> compared = new ArrayList<>();
        compared.add(false);
        boolean isOperandDue = true;
        boolean mayNot = true;
        for (int i = start; i < tokens.size(); i++) {
            String t = tokens.get(i);
            int last = compared.size() - 1;
            if (isOperandDue) {
                if (t.equals("(") || t.equals("-") || t.equals("not") && mayNot) {
                    if (open.size() == 5) {
                        return -1 - i;
                    }
                    open.add(t);
                    mayNot = !t.equals("-");
                    if (t.equals("(")) {
                        compared.add(false);
                    }
                } else if (t.matches("[0-9]+") || NAMES.contains(t)) {
                    closeAll(open, "-");
                    isOperandDue = false;
                } else {
                    return -1 - i;
                }
                continue;
            }
            if (t.equals("*") || t.equals("+") || t.equals("-")) {
                isOperandDue = true;
                mayNot = false;
            } else if ((t.equals("<") || t.equals("=")) && !compared.get(last)) {
                compared.set(last, true);
                isOperandDue = true;
                mayNot = false;
            } else if (t.equals("and") || t.equals("or")) {
                closeAll(open, "not");
                compared.set(last, false);
                isOperandDue = true;
                mayNot = true;
            } else if (t.equals(")") && last > 0) {
                closeAll(open, "not");
                open.remove(open.size() - 1);
                compared.remove(last);
                closeAll(open, "-");
            } else if (t.equals(";") && last == 0) {
                return i;
            } else {
                return -1 - i;
            }
        }
        return -1 - tokens.size();
    }

    private static void closeAll(List<String> open, String what) {
        while (!open.isEmpty() && open.get(open.size() - 1).equals(what)) {
            open.remove(open.size() - 1);
        }
    }

    int says(int part, int[] names) {
        int value = value(from[part], to[part], names);
        int least = part == 2 ? 0 : -99;
        int most = part == 2 ? 9 : 99;
        return value < least ? least : value > most ? most : value;
    }

    private int value(int lo, int hi, int[] names) {
        int at = lastOf(lo, hi, List.of("or"));
        if (at >= 0) {
            boolean left = value(lo, at, names) != 0;
            return left | value(at + 1, hi, names) != 0 ? 1 : 0;
        }
        at = lastOf(lo, hi, List.of("and"));
        if (at >= 0) {
            boolean left = value(lo, at, names) != 0;
            return left & value(at + 1, hi, names) != 0 ? 1 : 0;
        }
        if (tokens.get(lo).equals("not")) {
            return value(lo + 1, hi, names) == 0 ? 1 : 0;
        }
        at = lastOf(lo, hi, List.of("<", "="));
        if (at >= 0) {
            int left = value(lo, at, names);
            int right = value(at + 1, hi, names);
            return (tokens.get(at).equals("<") ? left < right : left == right) ? 1 : 0;
        }
        at = lastOf(lo, hi, List.of("+", "-"));
        if (at >= 0) {
            int right = value(at + 1, hi, names);
            return value(lo, at, names) + (tokens.get(at).equals("-") ? -right : right);
        }
        at = lastOf(lo, hi, List.of("*"));
        if (at >= 0) {
            return value(lo, at, names) * value(at + 1, hi, names);
        }
        String t = tokens.get(lo);
        if (t.equals("-")) {
            return -value(lo + 1, hi, names);
        }
        if (t.equals("(")) {
            return value(lo + 1, hi - 1, names);
        }
        return NAMES.contains(t) ? names[NAMES.indexOf(t)] : Integer.parseInt(t);
    }

    /** The last of such signs that stands between two values, in no ( ). */
    private int lastOf(int lo, int hi, List<String> signs) {
        int depth = 0;
        for (int i = hi - 1; i > lo; i--) {
            String t = tokens.get(i);
            depth += t.equals(")") ? 1 : t.equals("(") ? -1 : 0;
            String ahead = tokens.get(i - 1);
            boolean isBehindValue = ahead.equals(")") || ahead.matches("[0-9]+") || NAMES.contains(ahead);
            if (depth == 0 && isBehindValue && signs.contains(t)) {
                return i;
            }
        }
        return -1;
    }
}
