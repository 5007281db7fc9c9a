import java.util.Random;

/** Very many texts, whole and faulty ones, deep ones among them: their faults and what they say, beside the plain text. */
public final class TextTest {
    private static final int TEXTS = 60000;
    private static final String[] TOKENS = {"mark", "need", "which", "year", "hired", "more", "0", "1", "2", "50", "9999", "10000",
        "(", ")", "(", "-", "-", "not", "not", "+", "*", "<", "=", "and", "or", ";", "suits", "likes", "tires", "nor", "A", "\t", "\u00e9"};
    private static final String[] VALUES = {"mark", "need", "which", "year", "hired", "more", "0", "3", "77", "9999"};
    private static final String[] BETWEEN = {"+", "-", "*", "<", "+", "-", "*", "=", " and ", " or ", " and ", " or "};
    private static final String[] AHEAD = {"(", "-", "- ", "not "};

    private TextTest() {
    }

    public static void main(String[] args) {
        Random random = new Random(7);
        int whole = 0;
        for (int i = 0; i < TEXTS && !Due.isAnyWrong(); i++) {
            String text = "suits " + e(random, 4) + ";likes " + e(random, 2) + ";tires " + e(random, 2) + ";";
            if (random.nextInt(3) == 0) {
                text = broken(random, text);
            }
            if (text.length() <= 160) {
                whole += compare(random, text) ? 1 : 0;
            }
        }
        Due.holds("many are whole: " + whole, whole > TEXTS / 20);
        Due.end();
    }

    private static String e(Random random, int depth) {
        StringBuilder e = new StringBuilder();
        int close = 0;
        for (int n = random.nextInt(5); n >= 0; n--) {
            while (random.nextInt(2) > 0 && e.length() < 60) {
                boolean mayNot = e.length() == 0 || e.toString().matches(".*(and|or|not|\\() ?");
                String ahead = AHEAD[random.nextInt(mayNot || random.nextInt(20) == 0 ? 4 : 3)];
                e.append(ahead);
                close += ahead.equals("(") ? 1 : 0;
            }
            e.append(depth > 0 && random.nextInt(5) == 0 ? "(" + e(random, depth - 1) + ")" : VALUES[random.nextInt(VALUES.length)]);
            while (close > 0 && random.nextInt(2) == 0) {
                e.append(")");
                close--;
            }
            if (n > 0) {
                e.append(BETWEEN[random.nextInt(BETWEEN.length)]);
            }
        }
        for (int i = 0; i < close; i++) {
            e.append(")");
        }
        return e.toString();
    }

    private static String broken(Random random, String text) {
        StringBuilder b = new StringBuilder(text);
        for (int n = random.nextInt(3); n >= 0; n--) {
            int at = random.nextInt(b.length() + 1);
            if (random.nextBoolean()) {
                b.insert(at, TOKENS[random.nextInt(TOKENS.length)]);
            } else {
                b.delete(at, Math.min(b.length(), at + 1 + random.nextInt(5)));
            }
        }
        return b.toString();
    }

    private static boolean compare(Random random, String text) {
        UnclesByWard x = new UnclesByWard();
        PlainText plain = new PlainText(text);
        int number = Tape.read(x, text);
        Due.is("the fault of " + text, number, plain.fault < 0 ? 1 : -100 - plain.fault);
        if (number < 0 || plain.fault >= 0) {
            return false;
        }
        int more = random.nextInt(10);
        int[] names = {random.nextInt(10), random.nextInt(10), random.nextInt(4), random.nextInt(100), random.nextInt(2), more};
        int ten = names[2] == 0 ? 1000 : names[2] == 1 ? 100 : names[2] == 2 ? 10 : 1;
        x.child(names[1] * ten);
        x.uncle(more, names[0] * ten);
        x.put(0, 2, names[3]);
        x.appoint(0, names[4] - 1);
        x.force(number);
        for (int part = 0; part < 3; part++) {
            Due.is("part " + part + " of " + text, x.asks(part, 0, names[2]), plain.says(part, names));
        }
        return true;
    }
}
