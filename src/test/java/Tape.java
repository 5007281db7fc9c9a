/** Puts a text on the tape of a ward. */
final class Tape {
    private Tape() {
    }

    static void feed(UnclesByWard x, String text) {
        for (int i = 0; i < text.length(); i += 5) {
            int n = Math.min(5, text.length() - i);
            x.feed(n, at(text, i), at(text, i + 1), at(text, i + 2), at(text, i + 3), at(text, i + 4));
        }
    }

    static int read(UnclesByWard x, String text) {
        feed(x, text);
        return x.text();
    }

    private static int at(String text, int i) {
        return i < text.length() ? text.charAt(i) : 0;
    }
}
