/** What can stand on THE TAPE, and each FAULT that the document names, at its edges. */
public final class FaultsTest {
    private static final String WHOLE = "suits mark*need;likes 9-need;tires year<3;";
    private static final String[] KEYS = {"suits", "likes", "tires", "or", "and", "not"};
    private static final String[] NAMES = {"mark", "need", "which", "year", "hired", "more"};
    private static final String[] OPENS = {"(", "-", "not "};

    private FaultsTest() {
    }

    public static void main(String[] args) {
        tape();
        tapeIsEmptyThen();
        blanks();
        signs();
        words();
        wordsWhereTheyStand();
        numbers();
        endsTooEarly();
        fiveOpen();
        whatEndsIsNotOpen();
        order();
        Due.end();
    }

    private static void fault(String text, int due) {
        Due.is("the text " + text, Tape.read(new UnclesByWard(), text), due);
    }

    private static void tape() {
        Due.by("THE TAPE (160 bytes at most)");
        UnclesByWard x = new UnclesByWard();
        for (int i = 1; i <= 160; i++) {
            Due.is("byte by byte", x.feed(1, 32, 0, 0, 0, 0), i);
        }
        for (int n = 1; n < 6; n++) {
            Due.is("a byte more", x.feed(n, 32, 32, 32, 32, 32), -4);
        }
        Due.is("it ends too early", x.text(), -260);
        for (int room = 0; room < 5; room++) {
            x = new UnclesByWard();
            Tape.feed(x, " ".repeat(160 - room));
            for (int n = room + 1; n < 6; n++) {
                Due.is("no room for all " + n, x.feed(n, 32, 32, 32, 32, 32), -4);
            }
            Due.is("none comes", x.count(6), 160 - room);
            Due.is("room for " + room, room == 0 ? 160 : x.feed(room, 32, 32, 32, 32, 32), 160);
        }
        fault(" ".repeat(160 - WHOLE.length()) + WHOLE, 1);
        fault(WHOLE + " ".repeat(160 - WHOLE.length()), 1);
        fault(WHOLE + " ".repeat(159 - WHOLE.length()) + ";", -259);
        String sum = "suits 1" + "+1".repeat(66) + ";likes 1;tires 1;";
        fault(sum + " ".repeat(160 - sum.length()), 1);
        fault("suits 1" + "+1".repeat(67) + ";likes 1;tires 1;  ", 1);
    }

    private static void tapeIsEmptyThen() {
        Due.by("THE TAPE, which is empty then (by a FAULT, too), is a TEXT; FULL (ahead of the FAULT; then THE TAPE stays)");
        UnclesByWard x = Wards.of(Wards.needs(9999), 0, 9999);
        Due.is("an empty tape", x.text(), -100);
        Due.is("a fault", Tape.read(x, "suits mark*need*mark+99;likes mark+need+9;tires 7 7;"), -150);
        Due.is("it is empty", x.count(6), 0);
        Due.is("a text behind the fault", Tape.read(x, "suits 5;likes 6;tires 4;"), 1);
        Due.is("it is empty", x.count(6), 0);
        x.force(1);
        Due.is("nothing of the fault is left, suits", x.asks(0, 0, 0), 5);
        Due.is("nothing of the fault is left, likes", x.asks(1, 0, 0), 6);
        Due.is("nothing of the fault is left, tires", x.asks(2, 0, 0), 4);
        Tape.feed(x, "suits 5;");
        Due.is("a text that ends too early", x.text(), -108);
        Due.is("what came ahead is gone", Tape.read(x, "likes 5;tires 5;"), -100);
        for (int t = 2; t < 6; t++) {
            Due.is("a text", Tape.read(x, WHOLE), t);
        }
        Due.is("full, of nothing", x.text(), -4);
        Tape.feed(x, "?");
        Due.is("full, of a fault", x.text(), -4);
        Tape.feed(x, WHOLE);
        Due.is("full", x.text(), -4);
        Due.is("the tape stays", x.count(6), 1 + WHOLE.length());
    }

    private static void blanks() {
        Due.by("blanks (32, 10) may stand between");
        for (int b = 0; b < 256; b++) {
            char c = (char) b;
            boolean isBlank = b == 32 || b == 10;
            boolean isDigit = c >= '0' && c <= '9';
            boolean isBetween = "+-*<=;".indexOf(c) >= 0;
            fault("suits 1" + c + ";likes 1;tires 1;", isBlank || isDigit ? 1 : isBetween ? -108 : -107);
            fault(c + "suits 1;likes 1;tires 1;", isBlank ? 1 : -100);
            fault("suits 1;likes 1;tires 1;" + c, isBlank ? 1 : -124);
            fault("suits " + c + "1;likes 1;tires 1;", isBlank || isDigit || c == '-' ? 1 : c == '(' ? -108 : -106);
        }
        fault(" \n suits \n mark \n * \n need \n ; \n likes \n 9 \n - \n need \n ; \n tires \n year \n < \n 3 \n ; \n ", 1);
        fault("suits ma rk;likes 1;tires 1;", -106);
        fault("suits 1 2;likes 1;tires 1;", -108);
        fault("suits\n1;likes\n1;tires\n1;", 1);
    }

    private static void signs() {
        Due.by("also of a byte that begins none");
        for (int b = 0; b < 256; b++) {
            char c = (char) b;
            boolean begins = c == ' ' || c == '\n' || "();+-*<=".indexOf(c) >= 0 || c >= 'a' && c <= 'z' || c >= '0' && c <= '9';
            if (!begins) {
                fault("suits mark" + c + "*need;likes 1;tires 1;", -110);
                fault("suits mark*" + c + "need;likes 1;tires 1;", -111);
                fault("suits (((mark" + c + ")));likes 1;tires 1;", -113);
                fault("suits 1;likes 1;tires 1" + c, -123);
            }
        }
    }

    private static void words() {
        Due.by("WORDS (as many letters a .. z as stand there); also of a WORD that is neither KEY nor NAME");
        for (String name : NAMES) {
            fault("suits " + name + ";likes " + name + ";tires " + name + ";", 1);
            for (int i = 0; i < name.length(); i++) {
                for (char c : new char[] {'a', 'q', 'z', 'A'}) {
                    String other = name.substring(0, i) + c + name.substring(i + 1);
                    if (!other.equals(name)) {
                        fault("suits 1+" + other + ";likes 1;tires 1;", c == 'A' && i > 0 ? cutAt(name, i) : -108);
                    }
                }
            }
            fault("suits 1+" + name.substring(1) + ";likes 1;tires 1;", -108);
            fault("suits 1+" + name.substring(0, name.length() - 1) + ";likes 1;tires 1;", -108);
            fault("suits 1+" + name + "s;likes 1;tires 1;", -108);
            fault("suits 1+" + name + "z;likes 1;tires 1;", -108);
            fault("suits 1+s" + name + ";likes 1;tires 1;", -108);
            fault("suits 1+" + name + name + ";likes 1;tires 1;", -108);
        }
        for (String key : new String[] {"suit", "suitss", "ssuits", "quits", "suite", "s", "likes", "tires", "or", "and", "not", "mark"}) {
            fault(key + " 1;likes 1;tires 1;", -100);
        }
        for (String key : new String[] {"like", "likess", "bikes", "liked", "suits", "tires", "need"}) {
            fault("suits 1;" + key + " 1;tires 1;", -108);
        }
        for (String key : new String[] {"tire", "tiress", "wires", "tired", "suits", "likes", "year"}) {
            fault("suits 1;likes 1;" + key + " 1;", -116);
        }
        for (String key : new String[] {"o", "orr", "nor", "on", "an", "andd", "nand", "any", "no", "nott", "knot", "nor"}) {
            fault("suits 1 " + key + " 1;likes 1;tires 1;", -108);
            fault("suits " + key + " 1;likes 1;tires 1;", -106);
        }
    }

    /** A great letter ends the WORD ahead of it: its FAULT is the WORD's, unless that is a NAME. */
    private static int cutAt(String name, int i) {
        for (String other : NAMES) {
            if (other.equals(name.substring(0, i))) {
                return -108 - i;
            }
        }
        return -108;
    }

    private static void wordsWhereTheyStand() {
        Due.by("FAULT: the place of the first byte of the first TOKEN that can't stand there");
        for (String key : KEYS) {
            boolean isNot = key.equals("not");
            fault("suits " + key + ";likes 1;tires 1;", isNot ? -109 : -106);
            fault("suits 1 " + key + ";likes 1;tires 1;", key.equals("or") ? -110 : key.equals("and") ? -111 : -108);
            fault("suits (" + key + ");likes 1;tires 1;", isNot ? -110 : -107);
            fault("suits -" + key + " 1;likes 1;tires 1;", -107);
            fault("suits 1+" + key + " 1;likes 1;tires 1;", -108);
            fault("suits 1*" + key + " 1;likes 1;tires 1;", -108);
            fault("suits 1<" + key + " 1;likes 1;tires 1;", -108);
            fault("suits 1 and " + key + " 1;likes 1;tires 1;", isNot ? 1 : -112);
            fault("suits 1 or " + key + " 1;likes 1;tires 1;", isNot ? 1 : -111);
            fault("suits not " + key + " 1;likes 1;tires 1;", isNot ? 1 : -110);
            fault(key + ";", key.equals("suits") ? -105 : -100);
        }
        for (String name : NAMES) {
            fault(name + " 1;likes 1;tires 1;", -100);
            fault("suits 1 " + name + ";likes 1;tires 1;", -108);
            fault("suits " + name + " 1;likes 1;tires 1;", -107 - name.length());
            fault("suits " + name + "(1);likes 1;tires 1;", -106 - name.length());
        }
        for (String sign : new String[] {"+", "*", "<", "=", ")", ";"}) {
            fault("suits " + sign + "1;likes 1;tires 1;", -106);
            fault("suits (" + sign + "1);likes 1;tires 1;", -107);
            fault("suits 1+" + sign + "1;likes 1;tires 1;", -108);
            fault("suits not " + sign + "1;likes 1;tires 1;", -110);
            fault("suits -" + sign + "1;likes 1;tires 1;", -107);
        }
        fault("suits 1<2=3;likes 1;tires 1;", -109);
        fault("suits 1=2<3;likes 1;tires 1;", -109);
        fault("suits not 1<2<3;likes 1;tires 1;", -113);
        fault("suits 1<2 and 2<3<4;likes 1;tires 1;", -117);
        fault(WHOLE + WHOLE, -100 - WHOLE.length());
    }

    private static void numbers() {
        Due.by("NUMBERS (as many digits as stand there; more than 4 are too long)");
        String[] digits = {"0", "9", "00", "99", "000", "999", "0000", "0099", "9999"};
        for (String number : digits) {
            fault("suits " + number + ";likes " + number + ";tires " + number + ";", 1);
            fault("suits 1+0" + number + ";likes 1;tires 1;", number.length() == 4 ? -108 : 1);
        }
        String[] tooLong = {"00000", "00001", "10000", "99999", "000000", "4294967296", "2147483648", "99999999999999999999"};
        for (String number : tooLong) {
            fault("suits " + number + ";likes 1;tires 1;", -106);
            fault("suits mark*" + number + ";likes 1;tires 1;", -111);
            fault("suits 1;likes 1;tires (" + number + ");", -123);
            fault("suits 1 " + number + ";likes 1;tires 1;", -108);
        }
        UnclesByWard x = Wards.of(Wards.needs(0), 0, 0);
        Wards.law(x, "0012*0003", "9999-9998", "0007");
        Due.is("by their digits, suits", x.asks(0, 0, 0), 36);
        Due.is("by their digits, likes", x.asks(1, 0, 0), 1);
        Due.is("by their digits, tires", x.asks(2, 0, 0), 7);
    }

    private static void endsTooEarly() {
        Due.by("FAULT: the text's size, if it ends too early");
        for (int size = 0; size < WHOLE.length(); size++) {
            String text = WHOLE.substring(0, size);
            int word = size;
            while (word > 0 && Character.isLetter(text.charAt(word - 1))) {
                word--;
            }
            boolean isWhole = word == size || !Character.isLetter(WHOLE.charAt(size));
            fault(text, -100 - (isWhole ? size : word));
            fault(text + " ", -100 - (isWhole ? size + 1 : word));
            fault(text + "\n \n", -100 - (isWhole ? size + 3 : word));
        }
        fault(WHOLE, 1);
        String[] early = {"suits (", "suits not", "suits -", "suits 1 and", "suits 1 or", "suits 1<", "suits 1=", "suits 1+",
            "suits 1-", "suits 1*", "suits (1", "suits 1;", "suits ((((("};
        for (String text : early) {
            fault(text, -100 - text.length());
            fault(text + "  ", -102 - text.length());
        }
    }

    /** All rows of five, and of six, ahead of a NAME; behind a - no not can stand. */
    private static void fiveOpen() {
        Due.by("a ( , a not, a - ahead of a ONE while 5 of these are open");
        for (int length = 1; length <= 6; length++) {
            int rows = 1;
            for (int i = 0; i < length; i++) {
                rows *= 3;
            }
            for (int row = 0; row < rows; row++) {
                open(row, length);
            }
        }
    }

    private static void open(int row, int length) {
        StringBuilder text = new StringBuilder("suits ");
        int due = 1;
        int closes = 0;
        String last = "";
        int rest = row;
        for (int i = 0; i < length; i++) {
            String open = OPENS[rest % 3];
            rest /= 3;
            boolean cantStand = last.equals("-") && open.equals("not ");
            if (due == 1 && (cantStand || i == 5)) {
                due = -100 - text.length();
            }
            closes += open.equals("(") ? 1 : 0;
            text.append(open);
            last = open;
        }
        text.append("need").append(")".repeat(closes)).append(";likes 1;tires 1;");
        fault(text.toString(), due);
    }

    private static void whatEndsIsNotOpen() {
        Due.by("a ( till its ) , not and - till what they belong to ends");
        String[] five = {"(((((1)))))", "-----1", "((-(-1)))", "-(-(-(1)))".replace("-(1)", "1")};
        for (String one : five) {
            for (String between : new String[] {"+", "-", "*", "<", "=", " and ", " or "}) {
                fault("suits " + one + between + one + ";likes " + one + ";tires " + one + ";", 1);
            }
        }
        for (String between : new String[] {" and ", " or "}) {
            fault("suits not not not not not 1" + between + "not not not not not 1;likes 1;tires 1;", 1);
            fault("suits not -((-1))" + between + "not -((-1));likes 1;tires 1;", 1);
        }
        // A not belongs to a whole comparison of sums.
        for (String between : new String[] {"+", "-", "*", "<", "="}) {
            fault("suits not 1" + between + "((((1))));likes 1;tires 1;", 1);
            fault("suits not 1" + between + "(((((1)))));likes 1;tires 1;", -116);
        }
        fault("suits not 1+1*1<1-1*(((((1)))));likes 1;tires 1;", -124);
        fault("suits not 1 and (((((1)))));likes 1;tires 1;", 1);
        // A - belongs to the ONE behind it alone.
        fault("suits -1*(((((1)))))+(((((1)))));likes 1;tires 1;", 1);
        fault("suits -(1)*(((((1)))));likes 1;tires 1;", 1);
        fault("suits (-1*((((1)))));likes 1;tires 1;", 1);
        fault("suits (-1*(((((1))))));likes 1;tires 1;", -114);
        // A - between two TERMS is none of these.
        fault("suits 1-(((((1-1)))))-1;likes 1;tires 1;", 1);
        fault("suits (((((1-1-1)))));likes 1;tires 1;", 1);
        fault("suits (((((-1)))));likes 1;tires 1;", -111);
        fault("suits (((((1--1)))));likes 1;tires 1;", -113);
        fault("suits (((((not 1)))));likes 1;tires 1;", -111);
    }

    private static void order() {
        Due.by("FAULT: the first TOKEN that can't stand there, also a byte, a WORD, a NUMBER, a (");
        fault("suits 1 1;likes ?;tires 1;", -108);
        fault("suits ?;likes 1 1;tires 1;", -106);
        fault("suits 12345 what;likes 1;tires 1;", -106);
        fault("suits what 12345;likes 1;tires 1;", -106);
        fault("suits ((((((what))))));likes 1;tires 1;", -111);
        fault("suits (((((what)))));likes 1;tires 1;", -111);
        fault("suits 1) ?", -107);
        fault("suits 1;likes 1;tires 1;;?", -124);
        fault("suits 1;likes 1;tires 1;?;", -124);
        fault("likes ?", -100);
    }
}
