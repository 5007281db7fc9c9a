/** Each promise of the document by runs of calls whose answers are worked out by hand. */
public final class PromiseTest {
    private static final int LOW = Integer.MIN_VALUE, HIGH = Integer.MAX_VALUE;
    private static UnclesByWard x;

    private PromiseTest() {
    }

    public static void main(String[] args) {
        newObject();
        count();
        child();
        feed();
        text();
        faultsOfTokens();
        faultsAtTheEnd();
        faultsOfDepth();
        values();
        force();
        asks();
        uncle();
        put();
        told();
        suit();
        all();
        appoint();
        year();
        run();
        best();
        settled();
        would();
        swap();
        ranks();
        spare();
        judge();
        kinds();
        marks();
        when();
        whose();
        laws();
        film();
        drawn();
        odds();
        image();
        back();
        sheet();
        cell();
        copy();
        unclesBy();
        taken();
        fullWard();
        fullWardAppointed();
        suitedByOne();
        Due.end();
    }

    private static void fresh() {
        x = new UnclesByWard();
    }

    private static void texts(String... all) {
        for (String text : all) {
            Due.holds("a text: " + text, Tape.read(x, text) > 0);
        }
    }

    /** A row of ints. */
    private static void sheetOf(int s, int... numbers) {
        Due.is("sheet", x.sheet(s, 2, numbers.length), 1);
        for (int i = 0; i < numbers.length; i++) {
            Due.is("cell", x.cell(s, i, numbers[i]), 1);
        }
    }

    // 1
    private static void newObject() {
        fresh();
        Due.is("count 0", x.count(0), 0);
        Due.is("count 1", x.count(1), 0);
        Due.is("count 2", x.count(2), 0);
        Due.is("count 3", x.count(3), 0);
        Due.is("count 4", x.count(4), 1);
        Due.is("count 5", x.count(5), 0);
        Due.is("count 6", x.count(6), 0);
        Due.is("NONE", UnclesByWard.NONE, -1);
        Due.is("BAD", UnclesByWard.BAD, -2);
        Due.is("STATE", UnclesByWard.STATE, -3);
        Due.is("FULL", UnclesByWard.FULL, -4);
        Due.is("NO", UnclesByWard.NO, -4611686018427387904L);
        for (int s = 0; s < 4; s++) {
            Due.is("a sheet is missing at first", x.cell(s, 0, 0), -11);
        }
        UnclesByWard one = new UnclesByWard();
        UnclesByWard other = new UnclesByWard();
        one.child(1);
        Due.is("objects are apart", other.count(0), 0);
    }

    // 2
    private static void count() {
        fresh();
        x.child(1111);
        x.child(2222);
        x.child(3333);
        x.uncle(0, 1111);
        x.appoint(1, 0);
        x.year();
        texts("suits 1; likes 1; tires 1;");
        x.force(1);
        x.feed(3, 1, 2, 3, 4, 5);
        Due.is("count 0", x.count(0), 3);
        Due.is("count 1", x.count(1), 1);
        Due.is("count 2", x.count(2), 1);
        Due.is("count 3", x.count(3), 1);
        Due.is("count 4", x.count(4), 2);
        Due.is("count 5", x.count(5), 1);
        Due.is("count 6", x.count(6), 3);
        Due.is("count -1", x.count(-1), -2);
        Due.is("count 7", x.count(7), -2);
        Due.is("count low", x.count(LOW), -2);
        Due.is("count high", x.count(HIGH), -2);
    }

    // 3
    private static void child() {
        fresh();
        Due.is("child -1", x.child(-1), -2);
        Due.is("child 10000", x.child(10000), -2);
        Due.is("none came", x.count(0), 0);
        Due.is("child 0", x.child(0), 0);
        Due.is("child 9999", x.child(9999), 1);
        Due.is("child 12", x.child(12), 2);
        x.child(1);
        x.child(2);
        Due.is("child 5", x.child(3), 5);
        Due.is("child too many", x.child(4), -4);
        Due.is("child bad ahead of full", x.child(10000), -2);
        Due.is("needs", x.told(2, 0), 12);
        Due.is("no uncle", x.told(2, 1), -1);
    }

    // 4
    private static void feed() {
        fresh();
        Due.is("feed n 0", x.feed(0, 1, 1, 1, 1, 1), -2);
        Due.is("feed n 6", x.feed(6, 1, 1, 1, 1, 1), -2);
        Due.is("feed n low", x.feed(LOW, 1, 1, 1, 1, 1), -2);
        Due.is("feed n high", x.feed(HIGH, 1, 1, 1, 1, 1), -2);
        int[] bad = {-1, 256, LOW, HIGH};
        for (int b : bad) {
            Due.is("feed a", x.feed(1, b, 0, 0, 0, 0), -2);
            Due.is("feed b", x.feed(1, 0, b, 0, 0, 0), -2);
            Due.is("feed c", x.feed(1, 0, 0, b, 0, 0), -2);
            Due.is("feed d", x.feed(1, 0, 0, 0, b, 0), -2);
            Due.is("feed e", x.feed(1, 0, 0, 0, 0, b), -2);
        }
        Due.is("no byte came", x.count(6), 0);
        Due.is("feed 1", x.feed(1, 0, 255, 255, 255, 255), 1);
        Due.is("feed 2", x.feed(2, 0, 255, 255, 255, 255), 3);
        for (int i = 0; i < 31; i++) {
            x.feed(5, 32, 32, 32, 32, 32);
        }
        Due.is("bytes", x.count(6), 158);
        Due.is("feed 3 without room", x.feed(3, 32, 32, 32, 32, 32), -4);
        Due.is("bad ahead of full", x.feed(3, 32, 32, 32, 32, 256), -2);
        Due.is("none came", x.count(6), 158);
        Due.is("feed 2 with room", x.feed(2, 32, 32, 32, 32, 32), 160);
        Due.is("feed 1 without room", x.feed(1, 32, 32, 32, 32, 32), -4);
        Due.is("the first byte begins no token", x.text(), -100);
        // The bytes come in their order, the first n of them alone.
        fresh();
        x.feed(5, 's', 'u', 'i', 't', 's');
        x.feed(5, '1', ';', 'l', 'i', 'k');
        x.feed(4, 'e', 's', '2', ';', 'x');
        x.feed(3, 't', 'i', 'r', 'x', 'x');
        x.feed(2, 'e', 's', 'x', 'x', 'x');
        x.feed(1, '3', 'x', 'x', 'x', 'x');
        Due.is("the last byte", x.feed(1, ';', 'x', 'x', 'x', 'x'), 21);
        Due.is("they are a text", x.text(), 1);
    }

    // 5
    private static void text() {
        fresh();
        Due.is("nothing on the tape", x.text(), -100);
        Due.is("text 1", Tape.read(x, "suits 1;likes 2;tires 3;"), 1);
        Due.is("the tape is empty then", x.count(6), 0);
        Due.is("a fault", Tape.read(x, "suits 1;likes 2;tires 3"), -123);
        Due.is("the tape is empty by a fault, too", x.count(6), 0);
        Due.is("a fault makes no text", x.count(4), 2);
        Due.is("text 2", Tape.read(x, "\n suits\nmark;likes need;tires which;\n \n"), 2);
        Due.is("text 3", Tape.read(x, "suits year;likes hired;tires more;"), 3);
        Due.is("text 4", Tape.read(x, "suits not not 1;likes -(-1);tires 1<2;"), 4);
        Due.is("text 5", Tape.read(x, "suits 1;likes 2;tires 3;"), 5);
        Due.is("texts", x.count(4), 6);
        Tape.feed(x, "no text");
        Due.is("full ahead of the fault", x.text(), -4);
        Due.is("the tape stays", x.count(6), 7);
        Due.is("the law", x.count(5), 0);
    }

    /** What a text's FAULT is, or the number of the text. */
    private static void fault(String text, int due) {
        fresh();
        Due.is("the fault of: " + text, Tape.read(x, text), due);
    }

    private static void faultsOfTokens() {
        fault("   ", -103);
        fault("suits", -105);
        fault("suits ", -106);
        fault("suits 1;likes 1;tires 1; ;", -125);
        fault("suits 1;likes 1;tires 1;suits", -124);
        fault("suits 1;tires 1;", -108);
        fault("likes 1;suits 1;tires 1;", -100);
        fault("suits1;likes 1;tires 1;", 1);
        fault("suitsmark;likes 1;tires 1;", -100);
        fault("suits mark2;likes 1;tires 1;", -110);
        fault("suits 2mark;likes 1;tires 1;", -107);
        fault("suits 9999;likes 0000;tires 1;", 1);
        fault("suits 10000;likes 1;tires 1;", -106);
        fault("suits 00001;likes 1;tires 1;", -106);
        fault("suits 1 2;likes 1;tires 1;", -108);
        fault("suits marks;likes 1;tires 1;", -106);
        fault("suits markz;likes 1;tires 1;", -106);
        fault("suits amark;likes 1;tires 1;", -106);
        fault("suits mare;likes 1;tires 1;", -106);
        fault("suits Mark;likes 1;tires 1;", -106);
        fault("suits 1\t;likes 1;tires 1;", -107);
        fault("suits 1\r;likes 1;tires 1;", -107);
        fault("suits 1/2;likes 1;tires 1;", -107);
        fault("suits \u00e9;likes 1;tires 1;", -106);
        fault("suits ;likes 1;tires 1;", -106);
        fault("suits 1+;likes 1;tires 1;", -108);
        fault("suits +1;likes 1;tires 1;", -106);
        fault("suits 1*;likes 1;tires 1;", -108);
        fault("suits 1 and;likes 1;tires 1;", -111);
        fault("suits 1 or or 1;likes 1;tires 1;", -111);
        fault("suits 1<2<3;likes 1;tires 1;", -109);
        fault("suits 1=2<3;likes 1;tires 1;", -109);
        fault("suits (1<2)<3;likes 1;tires 1;", 1);
        fault("suits 1<not 2;likes 1;tires 1;", -108);
        fault("suits 1+not 2;likes 1;tires 1;", -108);
        fault("suits (1;likes 1;tires 1;", -108);
        fault("suits 1);likes 1;tires 1;", -107);
        fault("suits ();likes 1;tires 1;", -107);
        fault("suits 1;;likes 1;tires 1;", -108);
        fault("suits suits;likes 1;tires 1;", -106);
        fault("suits 1 likes 1;tires 1;", -108);
        fault("suits 1- -1;likes 1--1;tires 1;", 1);
        fault("suits mark need;likes 1;tires 1;", -111);
        fault("suits 1;likes 1;tires 1;?", -124);
        // Of two faults the first one, be it of a token or of where it stands.
        fault("suits 1 2;?", -108);
        fault("suits ? 1 2;", -106);
    }

    /** A text that fills THE TAPE, and one behind which the bytes of a longer one may still lie. */
    private static void faultsAtTheEnd() {
        String blanks = " ".repeat(160 - "suits 1;likes 1;tires 1;".length());
        fault("suits 1;likes 1;tires 1;" + blanks, 1);
        fault("suits 1;likes 1;" + blanks + "tires 12", -260);
        fault("suits 1;likes 1;" + blanks + "suits 12", -100 - 160 + 8);
        fault("suits 1;likes 1;" + blanks + "tires or", -100 - 160 + 2);
        fault("suits 1;likes 1;" + blanks + "tires ((", -260);
        fresh();
        Tape.read(x, "suits 12345678901234567890;");
        Due.is("the tape ends in a number", Tape.read(x, "suits 12"), -108);
        Tape.read(x, "suits marknnnnnnnnnnn;");
        Due.is("the tape ends in a name", Tape.read(x, "suits mark"), -110);
    }

    private static void faultsOfDepth() {
        fault("suits (((((1)))));likes 1;tires 1;", 1);
        fault("suits ((((((1))))));likes 1;tires 1;", -111);
        fault("suits -----1;likes 1;tires 1;", 1);
        fault("suits ------1;likes 1;tires 1;", -111);
        fault("suits not not not not not 1;likes 1;tires 1;", 1);
        fault("suits not not not not not not 1;likes 1;tires 1;", -126);
        fault("suits not(-(-1));likes 1;tires 1;", 1);
        fault("suits not(-(-(1)));likes 1;tires 1;", -113);
        fault("suits not(-(--1));likes 1;tires 1;", -113);
        fault("suits (-(-(not 1)));likes 1;tires 1;", -111);
        fault("suits (-(-(1)));likes 1;tires 1;", 1);
        // What is closed isn't open.
        fault("suits (((((1)))))+(((((1)))));likes 1;tires 1;", 1);
        fault("suits -----1+-----1*-----1;likes 1;tires 1;", 1);
        fault("suits not not 1 and not not not not not 1;likes 1;tires 1;", 1);
        fault("suits not not 1 or not not not not not 1;likes 1;tires 1;", 1);
        fault("suits (((((1)))));likes (((((1)))));tires (((((1)))));", 1);
        // A not is open till its whole comparison ends, a - till its one ends.
        fault("suits not 1<(((((1)))));likes 1;tires 1;", -116);
        fault("suits not 1<((((1))));likes 1;tires 1;", 1);
        fault("suits -1<(((((1)))));likes 1;tires 1;", 1);
        // Between two values - is no - ahead of a ONE.
        fault("suits (((((1-1-1)))));likes 1;tires 1;", 1);
        fault("suits (((((1--1)))));likes 1;tires 1;", -113);
    }

    /** What SUITS says, of an UNCLE of MORE 3 with MARKS 4567, of place 2 of a CHILD with NEEDS 1280, in YEAR 11. */
    private static void value(String e, int due) {
        fresh();
        x.child(1280);
        x.uncle(3, 4567);
        x.appoint(0, 0);
        x.put(0, 2, 11);
        texts("suits " + e + ";likes 0;tires 0;");
        x.force(1);
        Due.is("what says: " + e, x.asks(0, 0, 2), due);
    }

    private static void values() {
        value("mark", 6);
        value("need", 8);
        value("which", 2);
        value("year", 11);
        value("hired", 1);
        value("more", 3);
        value("2+3*4", 14);
        value("(2+3)*4", 20);
        value("20-3-4", 13);
        value("20-(3-4)", 21);
        value("-2*3", -6);
        value("- -2", 2);
        value("2--3", 5);
        value("1<2", 1);
        value("2<1", 0);
        value("2<2", 0);
        value("2=2", 1);
        value("2=3", 0);
        value("1+1=2", 1);
        value("1<1+1", 1);
        value("not 0", 1);
        value("not 7", 0);
        value("not -7", 0);
        value("not not 7", 1);
        value("not 1=2", 1);
        value("not 1<2", 0);
        value("7 and 8", 1);
        value("7 and 0", 0);
        value("0 and 7", 0);
        value("7 or 0", 1);
        value("0 or 8", 1);
        value("0 or 0", 0);
        value("1 or 0 and 0", 1);
        value("(1 or 0) and 0", 0);
        value("not 0 and 0", 0);
        value("0 and 0 or 7", 1);
        value("(7)", 7);
        value("99", 99);
        value("100", 99);
        value("-99", -99);
        value("-100", -99);
        value("9999*9999*9999", -99);
        value("9999*9999*22 < 0", 1);
        value("4096*4096*256 = 0", 1);
        value("9999*9999*21 < 9999*9999*22", 0);
    }

    // 6
    private static void force() {
        fresh();
        texts("suits 1;likes 1;tires 1;");
        Due.is("force -1", x.force(-1), -2);
        Due.is("force 2", x.force(2), -2);
        Due.is("force low", x.force(LOW), -2);
        Due.is("force 1", x.force(1), 0);
        Due.is("force 0", x.force(0), 1);
        Due.is("force 0 again", x.force(0), 0);
        x.child(9999);
        x.uncle(0, 9999);
        Due.is("by text 0", x.suit(0, 0, 0), 324);
        x.force(1);
        Due.is("by text 1", x.suit(0, 0, 0), 4);
    }

    // 7
    private static void asks() {
        fresh();
        x.child(1234);
        x.child(9876);
        x.uncle(14, 5678);
        Due.is("asks 0 0 0", x.asks(0, 0, 0), 5);
        Due.is("asks 0 0 13", x.asks(0, 0, 13), 48);
        Due.is("asks 1 0 10", x.asks(1, 0, 10), 0);
        Due.is("asks 1 0 3", x.asks(1, 0, 3), 5);
        Due.is("asks 2 0 3", x.asks(2, 0, 3), 1);
        x.put(0, 2, 3);
        Due.is("asks 2 0 3 later", x.asks(2, 0, 3), 0);
        int[][] none = {{-1, 0, 0}, {3, 0, 0}, {0, -1, 0}, {0, 1, 0}, {0, 0, -1}, {0, 0, 4}, {0, 0, 9}, {0, 0, 14},
            {0, 0, 20}, {LOW, 0, 0}, {0, HIGH, 0}, {0, 0, LOW}, {0, 0, HIGH}, {0, 0, -10}};
        for (int[] a : none) {
            Due.is("asks none such", x.asks(a[0], a[1], a[2]), -1000);
        }
        texts("suits 99*need;likes -99*need;tires need*2-1;", "suits which;likes more;tires 1*mark*100;");
        x.force(1);
        Due.is("suits, bound", x.asks(0, 0, 13), 99);
        Due.is("likes, bound", x.asks(1, 0, 13), -99);
        Due.is("tires, need is the need here", x.asks(2, 0, 1), 3);
        Due.is("tires, bound above", x.asks(2, 0, 10), 9);
        x.child(0);
        Due.is("tires, bound below", x.asks(2, 0, 20), 0);
        x.force(2);
        Due.is("which", x.asks(0, 0, 12), 2);
        Due.is("more", x.asks(1, 0, 12), 4);
        Due.is("tires, bound", x.asks(2, 0, 12), 9);
    }

    // 8
    private static void uncle() {
        fresh();
        Due.is("uncle -1", x.uncle(-1, 0), -2);
        Due.is("uncle 60", x.uncle(60, 0), -2);
        Due.is("uncle low", x.uncle(LOW, 0), -2);
        Due.is("uncle marks -1", x.uncle(0, -1), -2);
        Due.is("uncle marks 10000", x.uncle(0, 10000), -2);
        Due.is("none came", x.count(1), 0);
        Due.is("uncle 59", x.uncle(59, 9999), 0);
        Due.is("kind", x.told(0, 3), 5);
        Due.is("more", x.told(0, 4), 9);
        Due.is("marks", x.told(0, 2), 9999);
        for (int u = 1; u < 6; u++) {
            Due.is("uncle", x.uncle(10 * u, u), u);
        }
        Due.is("uncle too many", x.uncle(0, 0), -4);
        Due.is("bad ahead of full", x.uncle(60, 0), -2);
    }

    // 9
    private static void put() {
        fresh();
        x.child(1234);
        x.uncle(0, 5678);
        Due.is("needs", x.put(0, 0, 9), 1234);
        Due.is("needs told", x.told(0, 0), 9);
        Due.is("marks", x.put(0, 1, 9999), 5678);
        Due.is("marks told", x.told(0, 2), 9999);
        Due.is("year", x.put(-77, 2, 99), 0);
        Due.is("year told", x.count(2), 99);
        Due.is("year again", x.put(0, 2, 0), 99);
        Due.is("no such child", x.put(1, 0, 1), -5);
        Due.is("no such child -1", x.put(-1, 0, 1), -5);
        Due.is("no such uncle", x.put(1, 1, 1), -5);
        Due.is("no such ahead of v", x.put(1, 1, 10000), -5);
        Due.is("v of needs", x.put(0, 0, 10000), -7);
        Due.is("v of needs -1", x.put(0, 0, -1), -7);
        Due.is("v of marks", x.put(0, 1, 10000), -7);
        Due.is("v of year", x.put(0, 2, 100), -7);
        Due.is("v of year -1", x.put(0, 2, -1), -7);
        Due.is("what 3", x.put(0, 3, 1), -7);
        Due.is("what -1", x.put(0, -1, 1), -7);
        Due.is("nothing changed", x.told(0, 0), 9);
        Due.is("nothing changed", x.told(0, 2), 9999);
        Due.is("nothing changed", x.count(2), 0);
    }

    // 10
    private static void told() {
        fresh();
        x.child(123);
        x.child(456);
        x.uncle(39, 7890);
        x.uncle(50, 1);
        x.appoint(1, 0);
        Due.is("needs", x.told(0, 0), 123);
        Due.is("no uncle", x.told(0, 1), -1);
        Due.is("an uncle", x.told(1, 1), 0);
        Due.is("marks", x.told(0, 2), 7890);
        Due.is("kind", x.told(0, 3), 3);
        Due.is("more", x.told(0, 4), 9);
        Due.is("children", x.told(0, 5), 1);
        Due.is("children", x.told(1, 5), 0);
        Due.is("room", x.told(0, 6), 4);
        for (int what = 0; what < 7; what++) {
            Due.is("no such", x.told(2, what), -5);
            Due.is("no such", x.told(-1, what), -5);
        }
        Due.is("what 7", x.told(0, 7), -7);
        Due.is("what -1", x.told(0, -1), -7);
        Due.is("what ahead of no such", x.told(9, 7), -7);
        rooms();
    }

    private static void rooms() {
        int[][] rooms = {{0, 1}, {9, 1}, {10, 1}, {14, 1}, {15, 2}, {19, 2}, {20, 1}, {29, 1}, {30, 3}, {34, 3}, {35, 4},
            {39, 4}, {40, 1}, {49, 1}, {50, 0}, {51, 1}};
        for (int[] room : rooms) {
            fresh();
            x.uncle(room[0], 0);
            Due.is("room of " + room[0], x.told(0, 6), room[1]);
        }
        fresh();
        x.uncle(53, 0);
        for (int year = 0; year < 100; year++) {
            x.put(0, 2, year);
            Due.is("an aunt's room", x.told(0, 6), year % 10 == 3 ? 0 : 1);
        }
    }

    // 11
    private static void suit() {
        fresh();
        x.child(7654);
        x.child(8111);
        x.uncle(3, 2231);
        x.uncle(13, 2231);
        x.uncle(23, 2231);
        x.uncle(33, 2231);
        x.uncle(43, 7651);
        x.uncle(53, 2231);
        // mark * need: 14 + 12 + 15 + 4
        suits(0, 0, 45, 14);
        suits(0, 1, 51, 14);
        suits(0, 2, 28 + 6 + 7 + 2, 14 + 22);
        suits(0, 3, 20 + 12 + 15 + 5, 14);
        suits(0, 4, 98 + 3 + 18 + 3 + 12 + 3 + 2, -36);
        suits(0, 5, 45, 0);
        suits(1, 5, 16 + 2 + 3 + 1, 25);
        suits(1, 4, 112 + 3 + 2 + 0 + 3, -36);
        x.put(1, 0, 9920);
        suits(1, 5, 18 + 18 + 6, 16);
        x.put(1, 0, 9921);
        suits(1, 5, 18 + 18 + 6 + 1, 0);
        Due.is("no such child", x.suit(2, 0, 0), -1000005);
        Due.is("no such child", x.suit(-1, 0, 0), -1000005);
        Due.is("no such uncle", x.suit(0, 6, 0), -1000005);
        Due.is("no such uncle", x.suit(0, -1, 0), -1000005);
        Due.is("no such ahead of what", x.suit(0, -1, 2), -1000005);
        Due.is("what 2", x.suit(0, 0, 2), -1000007);
        Due.is("what -1", x.suit(0, 0, -1), -1000007);
        suitBelowZero();
    }

    private static void suits(int c, int u, int suited, int liked) {
        Due.is("suit " + c + " " + u, x.suit(c, u, 0), suited);
        Due.is("likes " + c + " " + u, x.suit(c, u, 1), liked);
    }

    private static void suitBelowZero() {
        fresh();
        texts("suits -3;likes -200;tires 0;");
        x.force(1);
        x.child(6789);
        x.uncle(29, 0);
        x.uncle(49, 6789);
        x.uncle(19, 0);
        // Half of -3, cut, is -1.
        suits(0, 0, -1 - 6 - 6 - 6, -396 + 30);
        suits(0, 1, -1 - 6 - 6 - 6 + 36, 396 - 30);
        suits(0, 2, -12 + 18, -396);
    }

    // 12
    private static void all() {
        fresh();
        Due.is("all, of none", x.all(), 0);
        x.child(1111);
        x.child(2222);
        x.child(3333);
        x.uncle(0, 1111);
        x.uncle(30, 2222);
        Due.is("all, of none that has one", x.all(), 0);
        x.appoint(0, 0);
        Due.is("all of one", x.all(), 4);
        x.appoint(2, 1);
        Due.is("all of two", x.all(), 4 + 18 + 5);
    }

    // 13
    private static void appoint() {
        fresh();
        x.child(1);
        x.child(2);
        x.child(3);
        x.uncle(0, 1);
        x.uncle(15, 1);
        x.uncle(50, 1);
        Due.is("appoint", x.appoint(0, 0), -1);
        Due.is("appoint again", x.appoint(0, 0), 0);
        Due.is("no room", x.appoint(1, 0), -3);
        Due.is("an aunt without room", x.appoint(1, 2), -3);
        Due.is("appoint another", x.appoint(0, 1), 0);
        Due.is("room now", x.appoint(1, 0), -1);
        Due.is("a second", x.appoint(1, 1), 0);
        Due.is("no third", x.appoint(2, 1), -3);
        Due.is("none", x.appoint(0, -1), 1);
        Due.is("none again", x.appoint(0, -1), -1);
        Due.is("room for a third", x.appoint(2, 1), -1);
        Due.is("no such child", x.appoint(3, 0), -5);
        Due.is("no such child", x.appoint(-1, 0), -5);
        Due.is("no such uncle", x.appoint(0, 3), -5);
        Due.is("no such uncle", x.appoint(0, -2), -5);
        x.put(0, 2, 1);
        Due.is("an aunt", x.appoint(0, 2), -1);
        x.put(0, 2, 10);
        Due.is("she has it, room or not", x.appoint(0, 2), 2);
        Due.is("she has more than room", x.appoint(1, 2), -3);
        Due.is("she loses it", x.appoint(0, -1), 2);
    }

    // 14
    private static void year() {
        fresh();
        Due.is("year of none", x.year(), 0);
        Due.is("year", x.count(2), 1);
        fresh();
        x.child(3553);
        x.child(9000);
        x.child(10);
        x.uncle(0, 1101);
        x.uncle(30, 5090);
        x.appoint(0, 0);
        x.appoint(1, 1);
        // 3553 is suited, its first 5 is less; 9000 is suited by 45 and 5.
        Due.is("year", x.year(), 15 + 8 + 1);
        Due.is("the first of like needs", x.told(0, 0), 3453);
        Due.is("the one need", x.told(1, 0), 8000);
        Due.is("no uncle, no less", x.told(2, 0), 10);
        Due.is("each mark is less, 0 at least", x.told(0, 2), 0);
        Due.is("each mark is less, 0 at least", x.told(1, 2), 4080);
        Due.is("year", x.count(2), 1);
        Due.is("not suited, no less", x.year(), 15 + 7 + 1);
        x.put(0, 2, 99);
        Due.is("year 99", x.year(), -3);
        Due.is("nothing changed", x.count(2), 99);
        yearByOneUncle();
        yearOfTires();
    }

    /** What an UNCLE of two CHILDREN loses by the first he hasn't by the second. */
    private static void yearByOneUncle() {
        fresh();
        x.child(1000);
        x.child(1000);
        x.uncle(15, 1000);
        texts("suits mark*need-10;likes 0;tires 1;");
        x.force(1);
        x.appoint(0, 0);
        x.appoint(1, 0);
        // By the first child: 1 - 10 + 10 - 30, by none above 0.
        Due.is("year", x.year(), 2);
        Due.is("marks are less by both", x.told(0, 2), 0);
        fresh();
        x.child(2000);
        x.child(2000);
        x.uncle(15, 1000);
        x.appoint(0, 0);
        x.appoint(1, 0);
        texts("suits mark*need-2*more*(which=0);likes 0;tires 1;");
        x.force(1);
        // 2 - 10 + 10 is above 0, then 0 - 10 + 10 isn't.
        Due.is("year", x.year(), 3);
        Due.is("the first", x.told(0, 0), 1000);
        Due.is("the second", x.told(1, 0), 2000);
        fresh();
        x.child(0);
        x.uncle(30, 0);
        x.appoint(0, 0);
        Due.is("no need is below 0", x.year(), 0);
    }

    private static void yearOfTires() {
        fresh();
        x.child(9999);
        x.uncle(3, 9999);
        x.appoint(0, 0);
        texts("suits 0;likes 0;tires need+which;", "suits 1;likes 0;tires mark=9;", "suits 1;likes 0;tires hired+more+year;");
        x.force(1);
        Due.is("not suited", x.year(), 36);
        Due.is("tires all the same; need is 0 of it", x.told(0, 2), 9876);
        x.force(2);
        x.year();
        Due.is("by mark", x.told(0, 2), 8876);
        x.force(3);
        x.put(0, 2, 1);
        x.year();
        Due.is("by hired, more, year", x.told(0, 2), 3321);
    }

    // 15
    private static void run() {
        fresh();
        x.child(3553);
        x.child(9000);
        x.uncle(0, 5555);
        x.appoint(0, 0);
        Due.is("run 0", x.run(0, 0), 25);
        Due.is("run 1", x.run(1, 0), 24);
        Due.is("run 3, needs", x.run(3, 10), 3343);
        Due.is("run 3, needs", x.run(3, 11), 9000);
        Due.is("run 3, marks", x.run(3, 20), 2222);
        Due.is("run 40, marks", x.run(40, 20), 2222);
        Due.is("run 40", x.run(40, 0), 9);
        Due.is("in thought", x.told(0, 0), 3553);
        Due.is("in thought", x.told(0, 2), 5555);
        Due.is("in thought", x.count(2), 0);
        Due.is("run -1", x.run(-1, 0), -2);
        Due.is("run 41", x.run(41, 0), -2);
        int[] bad = {-1, 1, 9, 12, 19, 21, 26, LOW, HIGH, LOW + 12, LOW + 21};
        for (int what : bad) {
            Due.is("run what " + what, x.run(1, what), -2);
        }
        x.put(0, 2, 98);
        Due.is("run passes year 99", x.run(3, 0), 22);
        texts("suits 1;likes 0;tires 99<year;");
        x.force(1);
        Due.is("run passes year 99", x.run(4, 20), 3333);
    }

    // 16
    private static void best() {
        fresh();
        Due.is("best of none", x.best(0), 0);
        Due.is("best of none", x.best(1), 0);
        x.child(1000);
        x.child(2000);
        Due.is("best without uncles", x.best(0), 0);
        x.uncle(0, 9000);
        x.uncle(0, 8000);
        Due.is("best row", x.best(0), 21);
        Due.is("best", x.best(1), 8 + 18);
        x.uncle(0, 9000);
        Due.is("best row of like ones the first", x.best(0), 13);
        Due.is("best", x.best(1), 9 + 18);
        Due.is("best -1", x.best(-1), -2);
        Due.is("best 2", x.best(2), -2);
        fresh();
        texts("suits need-5;likes 0;tires 0;");
        x.force(1);
        x.child(4444);
        x.child(5555);
        x.child(5556);
        x.uncle(35, 0);
        // The dwarf suits 10 more at place 0, and 5 at place 3: 4444 by 12, 5555 and 5556 by 15.
        Due.is("room for all", x.best(0), 111);
        Due.is("room for all", x.best(1), 42);
        fresh();
        texts("suits need-5;likes 0;tires 0;", "suits 0;likes 0;tires 0;");
        x.force(1);
        x.child(4444);
        x.child(5555);
        x.child(5556);
        x.uncle(0, 0);
        x.uncle(0, 0);
        Due.is("below 0 is worse than none; of like ones the first", x.best(0), 1);
        Due.is("one is suited", x.best(1), 1);
        x.force(2);
        Due.is("all alike", x.best(0), 0);
        fresh();
        x.child(1000);
        x.child(2000);
        x.child(3000);
        x.uncle(15, 1000);
        x.uncle(50, 9999);
        // The jolly one has room for two, the aunt for none.
        Due.is("room", x.best(0), 11);
        Due.is("room", x.best(1), 25);
        x.appoint(0, 0);
        x.appoint(1, 0);
        Due.is("whoever has whom now", x.best(0), 11);
        x.put(0, 2, 1);
        Due.is("room for one more", x.best(0), 112);
        Due.is("room for one more", x.best(1), 11 + 12 + 27);
    }

    // 17
    private static void settled() {
        fresh();
        Due.is("settled of none", x.settled(0), 0);
        Due.is("settled of none", x.settled(1), 0);
        Due.is("settled of none", x.settled(2), 0);
        Due.is("settled -1", x.settled(-1), -2);
        Due.is("settled 3", x.settled(3), -2);
        x.child(5000);
        x.child(1000);
        x.child(1000);
        Due.is("settled without uncles", x.settled(0), 0);
        x.uncle(0, 9000);
        x.uncle(0, 8000);
        // All ask 0, who likes 1 and 2 best and lets go of 2, then of 0; of these 1 keeps 2.
        Due.is("settled", x.settled(0), 12);
        Due.is("settled", x.settled(1), 9 + 8);
        Due.is("settled", x.settled(2), 2);
        Due.is("best is otherwise", x.best(0), 102);
        x.uncle(0, 0);
        Due.is("who suits by 0 isn't asked", x.settled(0), 12);
        x.uncle(0, 9000);
        // Of like ones the first is asked: 0 ahead of 3.
        Due.is("a third", x.settled(0), 214);
        x.appoint(0, 0);
        Due.is("nobody is kept at first", x.settled(0), 214);
        fresh();
        x.child(5000);
        x.child(1000);
        x.child(2000);
        x.uncle(50, 9999);
        Due.is("without room he lets go at once", x.settled(0), 0);
        Due.is("without room he lets go at once", x.settled(2), 0);
        x.uncle(15, 1000);
        Due.is("room for two", x.settled(0), 22);
        Due.is("room for two", x.settled(1), 23);
        Due.is("room for two", x.settled(2), 2);
        x.put(1, 0, 5000);
        Due.is("of like ones he lets go of the greatest number", x.settled(0), 202);
    }

    // 18
    private static void would() {
        fresh();
        Due.is("would of none", x.would(0), -1);
        Due.is("would -1", x.would(-1), -2);
        Due.is("would 2", x.would(2), -2);
        x.child(5000);
        x.child(1000);
        x.child(1000);
        x.uncle(0, 0);
        Due.is("he suits none by more than 0", x.would(0), -1);
        x.uncle(0, 8000);
        x.uncle(0, 9000);
        Due.is("a child without one", x.would(0), 0);
        Due.is("the first uncle", x.would(1), 1);
        x.appoint(0, 1);
        Due.is("one who suits more", x.would(0), 0);
        Due.is("one who suits more", x.would(1), 2);
        x.appoint(0, 2);
        Due.is("one with room", x.would(0), 1);
        Due.is("one with room", x.would(1), 1);
        x.appoint(1, 1);
        // 2 likes 1 more than 0.
        Due.is("one who likes it more", x.would(0), 1);
        Due.is("one who likes it more", x.would(1), 2);
        x.appoint(0, -1);
        x.appoint(1, 2);
        x.appoint(2, 1);
        Due.is("liked less than either", x.would(0), -1);
        Due.is("liked less than either", x.would(1), -1);
        x.appoint(2, -1);
        x.appoint(1, -1);
        x.appoint(1, 1);
        x.appoint(2, 2);
        Due.is("liked as much is not more", x.would(0), -1);
        wouldOfSeveral();
        wouldOfAunt();
    }

    /** More than any one of those he has: one is enough. */
    private static void wouldOfSeveral() {
        fresh();
        x.child(5000);
        x.child(1000);
        x.child(9000);
        x.uncle(15, 1000);
        x.appoint(1, 0);
        x.appoint(2, 0);
        Due.is("more than one of those he has", x.would(0), 0);
        Due.is("more than one of those he has", x.would(1), 0);
        x.put(2, 0, 5000);
        Due.is("more than none of those he has", x.would(0), -1);
    }

    private static void wouldOfAunt() {
        fresh();
        x.child(5000);
        x.child(1000);
        x.uncle(51, 9000);
        x.appoint(0, 0);
        Due.is("liked more", x.would(0), 1);
        x.put(0, 2, 1);
        Due.is("no room at all", x.would(0), -1);
    }

    // 19
    private static void swap() {
        fresh();
        Due.is("swap of none", x.swap(0), -1);
        Due.is("swap of none", x.swap(1), 0);
        Due.is("swap -1", x.swap(-1), -2);
        Due.is("swap 2", x.swap(2), -2);
        x.child(1000);
        x.child(5000);
        x.child(3000);
        x.uncle(0, 9000);
        x.uncle(0, 8000);
        Due.is("nobody has one", x.swap(0), -1);
        x.appoint(0, 0);
        // 9 now; 45 if 1 has him, 27 if 2.
        Due.is("with one that has none", x.swap(0), 1);
        Due.is("with one that has none", x.swap(1), 45);
        x.appoint(2, 1);
        // 33 now; 1 and 0: 69; 0 and 2: 35; 1 and 2: 49.
        Due.is("the most", x.swap(0), 1);
        Due.is("the most", x.swap(1), 69);
        x.appoint(0, -1);
        x.appoint(1, 0);
        Due.is("none is more", x.swap(0), -1);
        Due.is("as now", x.swap(1), 69);
        x.put(2, 0, 1000);
        x.appoint(2, -1);
        x.appoint(1, -1);
        x.appoint(0, 0);
        x.put(2, 0, 5000);
        Due.is("of like ones the first", x.swap(0), 1);
        x.appoint(0, -1);
        x.appoint(2, 0);
        x.put(0, 0, 6000);
        x.put(1, 0, 7000);
        Due.is("the lesser first", x.swap(0), 12);
        Due.is("the lesser first", x.swap(1), 63);
    }

    // 20
    private static void ranks() {
        fresh();
        x.child(1000);
        Due.is("no uncles", x.ranks(0), 0);
        Due.is("no such child", x.ranks(1), -5);
        Due.is("no such child", x.ranks(-1), -5);
        x.uncle(0, 1000);
        Due.is("one", x.ranks(0), 1);
        x.uncle(0, 5000);
        x.uncle(0, 1000);
        x.uncle(0, 9000);
        Due.is("four", x.ranks(0), 4213);
        texts("suits -mark;likes 0;tires 0;");
        x.force(1);
        Due.is("below 0, too", x.ranks(0), 1324);
        x.uncle(0, 0);
        x.uncle(0, 1000);
        Due.is("six", x.ranks(0), 513624);
    }

    // 21
    private static void spare() {
        fresh();
        Due.is("no uncles", x.spare(0), -1);
        Due.is("no uncles", x.spare(1), 0);
        x.child(1000);
        x.child(5000);
        Due.is("no uncles", x.spare(0), -1);
        Due.is("spare -1", x.spare(-1), -2);
        Due.is("spare 2", x.spare(2), -2);
        x.uncle(0, 3000);
        Due.is("one", x.spare(0), 0);
        Due.is("one", x.spare(1), 0);
        x.uncle(0, 9000);
        Due.is("the worse of two", x.spare(0), 0);
        Due.is("the worse of two", x.spare(1), 45);
        x.uncle(0, 2000);
        Due.is("the worst of three", x.spare(0), 2);
        Due.is("the worst of three", x.spare(1), 48);
        x.put(0, 1, 2000);
        Due.is("of like ones the first", x.spare(0), 0);
        Due.is("of like ones the first", x.spare(1), 47);
        Due.is("he isn't spared truly", x.best(1), 47);
    }

    // 22
    private static void judge() {
        fresh();
        x.child(1000);
        x.child(2000);
        x.uncle(0, 5000);
        Due.is("sheet -1", x.judge(-1, 0), -2);
        Due.is("sheet 4", x.judge(4, 0), -2);
        Due.is("missing", x.judge(0, 0), -11);
        Due.is("missing ahead of no such uncle", x.judge(0, 7), -11);
        sheetOf(0, 5, 10, 0);
        Due.is("more than there are", x.judge(0, 0), -2);
        Due.is("more than there are, ahead of no such uncle", x.judge(0, 7), -2);
        sheetOf(0, 5, 10);
        Due.is("no such uncle", x.judge(0, 1), -5);
        Due.is("no such uncle", x.judge(0, -1), -5);
        Due.is("none is otherwise", x.judge(0, 0), -1);
        x.cell(0, 1, 11);
        Due.is("1 is otherwise", x.judge(0, 0), 1);
        x.cell(0, 0, 4);
        Due.is("0 is otherwise", x.judge(0, 0), 0);
        sheetOf(0, 5);
        Due.is("it tells of one", x.judge(0, 0), -1);
        sheetOf(0);
        Due.is("it tells of nobody", x.judge(0, 0), -1);
        texts("suits 0-9*need;likes 0;tires 0;");
        x.force(1);
        x.sheet(1, 0, 1);
        x.cell(1, 0, 256 - 9);
        Due.is("bytes may be below 0", x.judge(1, 0), -1);
        x.sheet(1, 1, 1);
        x.cell(1, 0, 65536 * 3 - 9);
        Due.is("shorts may be below 0", x.judge(1, 0), -1);
        x.put(0, 0, 9999);
        x.sheet(1, 0, 1);
        x.cell(1, 0, 9 * -36);
        Due.is("bytes are cut", x.judge(1, 0), 0);
    }

    // 23
    private static void kinds() {
        fresh();
        x.child(8321);
        x.uncle(12, 2111);
        Due.is("sheet 4", x.kinds(4, 0, 0), -2);
        Due.is("missing", x.kinds(0, 0, 0), -11);
        sheetOf(0, 1, 1);
        Due.is("more than there are", x.kinds(0, 0, 0), -2);
        sheetOf(0, 16 + 3 + 2 + 1);
        Due.is("no such uncle", x.kinds(0, 1, 0), -5);
        Due.is("no such uncle ahead of sort", x.kinds(0, 1, 2), -5);
        Due.is("sort 2", x.kinds(0, 0, 2), -7);
        Due.is("sort -1", x.kinds(0, 0, -1), -7);
        Due.is("an uncle, an aunt", x.kinds(0, 0, 0), 1 + 32);
        Due.is("no more at all", x.kinds(0, 0, 1), 1);
        sheetOf(0, 16 + 3 + 2 + 1 + 18);
        Due.is("no kind with more 2", x.kinds(0, 0, 0), 0);
        Due.is("more 9", x.kinds(0, 0, 1), 512);
        sheetOf(0, 16 + 3 + 2 + 1 + 4);
        Due.is("a jolly one", x.kinds(0, 0, 0), 2);
        sheetOf(0, 20 + 3 + 2 + 5);
        Due.is("a dwarf", x.kinds(0, 0, 0), 8);
        sheetOf(0, 32 + 1 + 1 + 0);
        Due.is("a sad one", x.kinds(0, 0, 0), 4);
        sheetOf(0, 32 + 1 + 1 + 0 + 2);
        Due.is("an orphan", x.kinds(0, 0, 0), 16);
        sheetOf(0);
        Due.is("all", x.kinds(0, 0, 0), 63);
        Due.is("all", x.kinds(0, 0, 1), 1023);
        Due.is("kind stays", x.told(0, 3), 1);
        Due.is("more stays", x.told(0, 4), 2);
        texts("suits more;likes 0;tires 0;");
        x.force(1);
        x.uncle(9, 0);
        sheetOf(0, 20);
        Due.is("more in the text", x.kinds(0, 1, 1), 32);
    }

    // 24
    private static void marks() {
        fresh();
        x.child(1230);
        x.uncle(0, 4560);
        Due.is("sheet -1", x.marks(-1, 0, 0), -2);
        Due.is("missing", x.marks(3, 0, 0), -11);
        sheetOf(3, 1, 2);
        Due.is("more than there are", x.marks(3, 0, 0), -2);
        sheetOf(3, 4 + 10 + 18);
        Due.is("no such uncle", x.marks(3, -1, 0), -5);
        Due.is("no such uncle ahead of k", x.marks(3, -1, 4), -5);
        Due.is("k -1", x.marks(3, 0, -1), -7);
        Due.is("k 4", x.marks(3, 0, 4), -7);
        Due.is("place 0", x.marks(3, 0, 0), 1 << 4);
        Due.is("place 1", x.marks(3, 0, 1), 1 << 5);
        Due.is("place 2", x.marks(3, 0, 2), 1 << 6);
        Due.is("place 3", x.marks(3, 0, 3), 1023);
        sheetOf(3, 4 + 10 + 18 + 2);
        Due.is("place 0", x.marks(3, 0, 0), 1 << 6);
        Due.is("place 1", x.marks(3, 0, 1), 1 << 6);
        Due.is("place 2", x.marks(3, 0, 2), 0);
        Due.is("place 3", x.marks(3, 0, 3), 0);
        Due.is("marks stay", x.told(0, 2), 4560);
        sheetOf(3);
        Due.is("all", x.marks(3, 0, 2), 1023);
    }

    // 25
    private static void when() {
        fresh();
        x.child(1000);
        x.uncle(50, 7000);
        Due.is("sheet 4", x.when(4, 0, 0), -2);
        Due.is("missing", x.when(2, 0, 0), -11);
        sheetOf(2, 1, 2);
        Due.is("more than there are", x.when(2, 0, 0), -2);
        sheetOf(2, 7);
        Due.is("no such uncle", x.when(2, 1, 0), -5);
        Due.is("no such uncle ahead of what", x.when(2, 1, 2), -5);
        Due.is("what 2", x.when(2, 0, 2), -7);
        Due.is("what -1", x.when(2, 0, -1), -7);
        Due.is("ever", x.when(2, 0, 0), 100);
        Due.is("ever", x.when(2, 0, 1), 0);
        texts("suits (year<20)*year*(which=0);likes 0;tires 0;", "suits 98<year;likes 0;tires 0;");
        x.force(1);
        x.put(0, 2, 50);
        Due.is("never", x.when(2, 0, 0), 1);
        Due.is("year 7", x.when(2, 0, 1), 7);
        sheetOf(2, 0);
        Due.is("0, and 20 and later", x.when(2, 0, 0), 81);
        Due.is("0, and 20 and later", x.when(2, 0, 1), 0);
        sheetOf(2, 20);
        Due.is("never", x.when(2, 0, 0), 0);
        Due.is("never", x.when(2, 0, 1), -1);
        x.force(2);
        sheetOf(2, 4);
        Due.is("the last", x.when(2, 0, 0), 1);
        Due.is("the last", x.when(2, 0, 1), 99);
        Due.is("year stays", x.count(2), 50);
    }

    // 26
    private static void whose() {
        fresh();
        Due.is("sheet -1", x.whose(-1), -2);
        Due.is("missing", x.whose(0), -11);
        sheetOf(0);
        Due.is("no uncles", x.whose(0), 0);
        sheetOf(0, 5);
        Due.is("more than there are", x.whose(0), -2);
        x.child(1000);
        x.uncle(0, 5000);
        x.uncle(0, 4000);
        x.uncle(0, 5900);
        Due.is("two of three", x.whose(0), 5);
        sheetOf(0, 6);
        Due.is("none", x.whose(0), 0);
        sheetOf(0);
        Due.is("all", x.whose(0), 7);
    }

    // 27
    private static void laws() {
        fresh();
        x.child(2000);
        x.uncle(0, 2000);
        texts("suits mark*2*(which=0);likes 0;tires 0;", "suits 2;likes 0;tires 0;", "suits 1;likes 0;tires 0;");
        Due.is("sheet 4", x.laws(4, 0), -2);
        Due.is("missing", x.laws(0, 0), -11);
        sheetOf(0, 4, 4);
        Due.is("more than there are", x.laws(0, 0), -2);
        sheetOf(0, 4);
        Due.is("no such uncle", x.laws(0, 1), -5);
        Due.is("three texts", x.laws(0, 0), 1 + 2 + 8);
        x.force(2);
        Due.is("whatever the law is", x.laws(0, 0), 1 + 2 + 8);
        sheetOf(0, 8);
        Due.is("one text", x.laws(0, 0), 4);
        Due.is("the law stays", x.count(5), 2);
        // A text with a fault is no text.
        Tape.read(x, "suits 2;likes 0;tires 0;;");
        Due.is("one text", x.laws(0, 0), 4);
    }

    // 28
    private static void film() {
        fresh();
        x.uncle(0, 1000);
        Due.is("sheet -1", x.film(-1, 0), -2);
        Due.is("sheet 4", x.film(4, 9), -2);
        Due.is("no such uncle", x.film(0, 1), -5);
        Due.is("no such uncle", x.film(0, -1), -5);
        Due.is("nothing there still", x.cell(0, 0, 1), -11);
        Due.is("no children", x.film(0, 0), 0);
        Due.is("a sheet of nobody", x.cell(0, 0, 1), -12);
        x.child(5000);
        x.child(7000);
        x.sheet(1, 0, 40);
        Due.is("children", x.film(1, 0), 2);
        Due.is("it is as told", x.judge(1, 0), -1);
        Due.is("so long", x.cell(1, 2, 1), -12);
        Due.is("of ints", x.unclesBy(1, 2, 0, 1), 1);
        Due.is("of ints", x.told(1, 2), 7);
        Due.is("of ints", x.told(1, 4), 5);
    }

    // 29
    private static void drawn() {
        fresh();
        Due.is("seed -1", x.drawn(-1, 0), -2);
        Due.is("seed 100000", x.drawn(100000, 0), -2);
        Due.is("what 2", x.drawn(0, 2), -2);
        Due.is("what -1", x.drawn(0, -1), -2);
        Due.is("no children", x.drawn(0, 1), 0);
        x.child(1000);
        x.child(2000);
        x.child(3000);
        Due.is("no uncles", x.drawn(0, 1), 0);
        Due.is("no uncles", x.drawn(0, 0), 0);
        x.uncle(0, 1000);
        x.uncle(0, 2000);
        x.uncle(0, 3000);
        // Seed 0: 48271 (1 by 3), 182605794 (0), 1291394886 (0): the third has no room.
        Due.is("row", x.drawn(0, 1), 210);
        Due.is("suited", x.drawn(0, 0), 2 + 2);
        x.appoint(2, 0);
        Due.is("whoever has whom now", x.drawn(0, 1), 210);
        long lot = 100000L * 48271L % 2147483647L;
        Due.is("the first of the last seed", x.drawn(99999, 1) / 100, lot % 3 + 1);
        fresh();
        x.child(1000);
        x.child(2000);
        x.uncle(0, 3000);
        Due.is("one uncle", x.drawn(5, 1), 10);
        x.uncle(50, 3000);
        Due.is("an aunt has no room", x.drawn(0, 1), 1);
    }

    // 30
    private static void odds() {
        fresh();
        Due.is("seed -1", x.odds(-1, 1, 0, 0), UnclesByWard.NO);
        Due.is("seed 100000", x.odds(100000, 1, 0, 0), UnclesByWard.NO);
        Due.is("seeds 0", x.odds(0, 0, 0, 0), UnclesByWard.NO);
        Due.is("seeds 61", x.odds(0, 61, 0, 0), UnclesByWard.NO);
        Due.is("least -10000", x.odds(0, 1, -10000, 0), UnclesByWard.NO);
        Due.is("least 10000", x.odds(0, 1, 10000, 0), UnclesByWard.NO);
        Due.is("part -1", x.odds(0, 1, 0, -1), UnclesByWard.NO);
        Due.is("part 2", x.odds(0, 1, 0, 2), UnclesByWard.NO);
        Due.is("all, 0 is enough", x.odds(0, 60, 0, 0), 1);
        Due.is("all, 0 is enough", x.odds(0, 60, 0, 1), 1);
        Due.is("none", x.odds(0, 60, 9999, 0), 0);
        Due.is("none", x.odds(0, 60, 9999, 1), 1);
        Due.is("all", x.odds(99999, 60, -9999, 0), 1);
        x.child(1234);
        x.child(2345);
        x.child(3456);
        x.uncle(0, 1212);
        x.uncle(15, 2121);
        x.uncle(51, 3311);
        int enough = 0;
        for (int seed = 500; seed < 560; seed++) {
            enough += x.drawn(seed, 0) >= 40 ? 1 : 0;
            int seeds = seed - 499;
            int common = gcd(enough, seeds);
            Due.is("odds above", x.odds(500, seeds, 40, 0), enough / common);
            Due.is("odds below", x.odds(500, seeds, 40, 1), seeds / common);
        }
        Due.holds("some are, some aren't", enough > 0 && enough < 60);
        Due.is("seeds may pass", x.odds(99999, 2, -9999, 1), 1);
    }

    private static int gcd(int a, int b) {
        return b == 0 ? a : gcd(b, a % b);
    }

    // 31
    private static void image() {
        fresh();
        Due.is("no uncles", x.image(), 0);
        x.uncle(0, 0);
        x.uncle(0, 0);
        Due.is("two", x.image(), 2);
        x.put(0, 1, 5);
        Due.is("back", x.back(), 2);
        Due.is("the later image", x.told(0, 2), 0);
    }

    // 32
    private static void back() {
        fresh();
        Due.is("no image", x.back(), -3);
        x.child(1234);
        x.child(5678);
        x.uncle(15, 1111);
        x.appoint(0, 0);
        x.put(0, 2, 7);
        texts("suits 1;likes 0;tires 0;", "suits 2;likes 0;tires 0;");
        x.force(1);
        x.image();
        x.force(2);
        x.put(0, 0, 0);
        x.put(0, 1, 0);
        x.put(0, 2, 0);
        x.appoint(0, -1);
        x.appoint(1, 0);
        x.child(9);
        x.uncle(20, 2222);
        x.appoint(2, 1);
        x.sheet(0, 2, 3);
        x.feed(1, 'a', 0, 0, 0, 0);
        Due.is("back", x.back(), 1);
        Due.is("needs", x.told(0, 0), 1234);
        Due.is("marks", x.told(0, 2), 1111);
        Due.is("year", x.count(2), 7);
        Due.is("who has whom", x.told(0, 1), 0);
        Due.is("who has whom", x.told(1, 1), -1);
        Due.is("children", x.count(0), 2);
        Due.is("uncles", x.count(1), 1);
        Due.is("the law", x.count(5), 1);
        Due.is("texts stay", x.count(4), 3);
        Due.is("the tape stays", x.count(6), 1);
        Due.is("sheets stay", x.cell(0, 2, 1), 1);
        Due.is("a child again", x.child(77), 2);
        Due.is("it has no uncle", x.told(2, 1), -1);
        Due.is("an uncle again", x.uncle(59, 3333), 1);
        Due.is("of his own kind", x.told(1, 3), 5);
        Due.is("back again", x.back(), 1);
        Due.is("children", x.count(0), 2);
        fresh();
        x.image();
        x.child(1);
        x.uncle(1, 1);
        Due.is("back to none", x.back(), 0);
        Due.is("no children", x.count(0), 0);
    }

    // 33
    private static void sheet() {
        fresh();
        Due.is("sheet -1", x.sheet(-1, 0, 1), -2);
        Due.is("sheet 4", x.sheet(4, 0, 1), -2);
        Due.is("sort -2", x.sheet(0, -2, 1), -2);
        Due.is("sort 3", x.sheet(0, 3, 1), -2);
        Due.is("n 41", x.sheet(0, 0, 41), -2);
        Due.is("n -1", x.sheet(0, 0, -1), -14);
        Due.is("sort ahead of n", x.sheet(0, 3, -1), -2);
        Due.is("missing still", x.cell(0, 0, 0), -11);
        Due.is("n 0", x.sheet(0, 0, 0), 1);
        Due.is("nothing in it", x.cell(0, 0, 0), -12);
        Due.is("n 40", x.sheet(3, 2, 40), 1);
        Due.is("the last", x.cell(3, 39, 1), 1);
        Due.is("behind the last", x.cell(3, 40, 1), -12);
        Due.is("refused", x.sheet(3, 2, 41), -2);
        Due.is("it stays", x.cell(3, 39, 1), 1);
        Due.is("missing", x.sheet(3, -1, 99), 1);
        Due.is("nothing there", x.cell(3, 0, 1), -11);
        Due.is("missing again", x.sheet(3, -1, -99), 1);
        x.child(0);
        x.uncle(0, 0);
        sheetOf(1, 7);
        x.sheet(1, 2, 1);
        Due.is("all 0", x.judge(1, 0), -1);
    }

    // 34
    private static void cell() {
        fresh();
        Due.is("sheet -1", x.cell(-1, 0, 1), -2);
        Due.is("sheet 4", x.cell(4, 0, 1), -2);
        Due.is("missing", x.cell(0, -1, 1), -11);
        x.sheet(0, 0, 3);
        Due.is("place -1", x.cell(0, -1, 1), -12);
        Due.is("place 3", x.cell(0, 3, 1), -12);
        Due.is("place low", x.cell(0, LOW, 1), -12);
        Due.is("place high", x.cell(0, HIGH, 1), -12);
        holds(0, 0, 127, 127);
        holds(0, 0, 128, -128);
        holds(0, 0, 511, -1);
        holds(0, 1, 128, 128);
        holds(0, 1, 32768, -32768);
        holds(0, 1, 65536 + 5, 5);
        holds(0, 2, 65541, 65541);
    }

    /** A cell is seen by the marks of an uncle that suits as much as it tells, or by how it differs. */
    private static void holds(int s, int sort, int v, int due) {
        x.sheet(s, sort, 2);
        x.cell(s, 0, 0);
        Due.is("cell", x.cell(s, 1, v), 1);
        if (due >= 0 && due < 10000) {
            Due.is("an uncle by it", x.unclesBy(s, sort, 0, 1), 1);
            Due.is("his marks", x.told(x.count(1) - 1, 2), due);
        } else {
            Due.is("no uncle by it", x.unclesBy(s, sort, 0, 1), 0);
        }
    }

    // 35
    private static void copy() {
        fresh();
        x.sheet(0, 2, 5);
        x.sheet(1, 2, 3);
        x.sheet(2, 1, 3);
        for (int i = 0; i < 5; i++) {
            x.cell(0, i, i + 1);
        }
        Due.is("sheet -1", x.copy(-1, 0, 0, 0, 1), -2);
        Due.is("sheet 4", x.copy(0, 0, 4, 0, 1), -2);
        Due.is("bad ahead of missing", x.copy(3, 0, 4, 0, 1), -2);
        Due.is("missing", x.copy(3, 0, 0, 0, 1), -11);
        Due.is("missing", x.copy(0, 0, 3, 0, 1), -11);
        Due.is("unlike", x.copy(0, 0, 2, 0, 1), -13);
        Due.is("unlike ahead of outside", x.copy(0, 0, 2, 0, -1), -13);
        Due.is("n -1", x.copy(0, 0, 1, 0, -1), -12);
        Due.is("n low", x.copy(0, 0, 1, 0, LOW), -12);
        Due.is("n high", x.copy(0, 1, 1, 1, HIGH), -12);
        Due.is("i -1", x.copy(0, -1, 1, 0, 1), -12);
        Due.is("j -1", x.copy(0, 0, 1, -1, 1), -12);
        Due.is("i high", x.copy(0, HIGH, 1, 0, 1), -12);
        Due.is("j high", x.copy(0, 0, 1, HIGH, 1), -12);
        Due.is("too long for the one", x.copy(1, 1, 0, 0, 3), -12);
        Due.is("too long for the other", x.copy(0, 0, 1, 1, 3), -12);
        Due.is("none, from the end", x.copy(0, 5, 1, 3, 0), 0);
        Due.is("none, from behind the end", x.copy(0, 6, 1, 0, 0), -12);
        Due.is("none, to behind the end", x.copy(0, 0, 1, 4, 0), -12);
        is(1, 0, 0, 0);
        Due.is("three", x.copy(0, 1, 1, 0, 3), 3);
        is(1, 2, 3, 4);
        Due.is("its own, to the right", x.copy(0, 0, 0, 1, 4), 4);
        is(0, 1, 1, 2, 3, 4);
        Due.is("its own, to the left", x.copy(0, 2, 0, 0, 3), 3);
        is(0, 2, 3, 4, 3, 4);
    }

    /** What a sheet of ints holds, told by an uncle whom a text lets suit each child by its needs. */
    private static void is(int s, int... numbers) {
        x.image();
        for (int number : numbers) {
            x.child(number * 1000);
        }
        Due.is("the sheet", x.judge(s, x.uncle(0, 1000)), -1);
        x.back();
    }

    // 36
    private static void unclesBy() {
        fresh();
        Due.is("sheet -1", x.unclesBy(-1, 2, 0, 1), -2);
        Due.is("sheet 4", x.unclesBy(4, 2, 0, 1), -2);
        Due.is("sort -1", x.unclesBy(0, -1, 0, 1), -2);
        Due.is("sort 3", x.unclesBy(0, 3, 0, 1), -2);
        Due.is("n -1", x.unclesBy(0, 2, 0, -1), -2);
        Due.is("n 7", x.unclesBy(0, 2, 0, 7), -2);
        Due.is("missing", x.unclesBy(0, 2, 0, 1), -11);
        sheetOf(0, 47, 9900, 60, 1, 59, 10000, 12, 34);
        Due.is("of another sort", x.unclesBy(0, 1, 0, 1), -13);
        Due.is("of another sort, ahead of outside", x.unclesBy(0, 1, -1, 1), -13);
        Due.is("from -1", x.unclesBy(0, 2, -1, 1), -12);
        Due.is("from low", x.unclesBy(0, 2, LOW, 1), -12);
        Due.is("from high", x.unclesBy(0, 2, HIGH, 6), -12);
        Due.is("from high", x.unclesBy(0, 2, HIGH - 1, 6), -12);
        Due.is("from 7", x.unclesBy(0, 2, 7, 1), -12);
        Due.is("nobody came", x.count(1), 0);
        Due.is("none", x.unclesBy(0, 2, 0, 0), 0);
        Due.is("two of four", x.unclesBy(0, 2, 0, 4), 2);
        Due.is("kind", x.told(0, 3), 4);
        Due.is("more", x.told(0, 4), 7);
        Due.is("marks", x.told(0, 2), 9900);
        Due.is("kind", x.told(1, 3), 1);
        Due.is("more", x.told(1, 4), 2);
        Due.is("marks", x.told(1, 2), 34);
        Due.is("what stood ahead came", x.unclesBy(0, 2, 6, 2), -12);
        Due.is("what stood ahead came", x.count(1), 3);
        x.unclesBy(0, 2, 6, 1);
        x.unclesBy(0, 2, 6, 1);
        Due.is("the sixth", x.unclesBy(0, 2, 6, 1), 1);
        Due.is("no seventh", x.unclesBy(0, 2, 6, 1), 0);
        Due.is("outside all the same", x.unclesBy(0, 2, 6, 2), -12);
        Due.is("six", x.count(1), 6);
    }

    // 37
    private static void taken() {
        fresh();
        boolean[][] isOf = {
            {true, false, false, false, false, false}, {true, true, false, false, false, false},
            {true, false, true, false, false, false}, {true, true, false, true, false, false},
            {true, false, true, false, true, false}, {true, false, false, false, false, true}};
        for (int kind = 0; kind < 6; kind++) {
            x.uncle(10 * kind + 1, 0);
        }
        for (int u = 0; u < 6; u++) {
            for (int kind = 0; kind < 6; kind++) {
                Due.is("taken " + u + " " + kind, x.taken(u, kind), isOf[u][kind] ? u : -13);
                Due.is("taken " + (u + 6) + " " + kind, x.taken(u + 6, kind), -13);
            }
            Due.is("an uncle is no whether", x.taken(u, 6), -13);
            Due.is("whether", x.taken(u + 6, 6), 1);
        }
        x.child(0);
        x.appoint(0, 0);
        Due.is("no room left", x.taken(6, 6), 0);
        x.put(0, 2, 1);
        Due.is("an aunt without room", x.taken(11, 6), 0);
        fresh();
        x.uncle(0, 0);
        Due.is("no such uncle", x.taken(1, 0), -11);
        Due.is("no such uncle", x.taken(7, 6), -11);
        Due.is("no such uncle ahead of unlike", x.taken(7, 0), -11);
        Due.is("kind -1", x.taken(0, -1), -2);
        Due.is("kind 7", x.taken(0, 7), -2);
        Due.is("kind ahead of place", x.taken(12, 7), -2);
        Due.is("place -1", x.taken(-1, 0), -12);
        Due.is("place 12", x.taken(12, 0), -12);
        Due.is("place low", x.taken(LOW, 6), -12);
        Due.is("place high", x.taken(HIGH, 6), -12);
    }

    /** Six of both: each UNCLE SUITS by 9, 18, 27, 36, 45, 54 whom he SUITS at all. */
    private static void sixOfBoth() {
        fresh();
        int[] needs = {9000, 900, 90, 9, 9900, 99};
        int[] marks = {1000, 200, 30, 4, 5000, 6};
        for (int i = 0; i < 6; i++) {
            x.child(needs[i]);
            x.uncle(0, marks[i]);
        }
    }

    private static void fullWard() {
        sixOfBoth();
        Due.is("all", x.all(), 0);
        Due.is("count 3", x.count(3), 0);
        Due.is("best row", x.best(0), 123456);
        Due.is("best", x.best(1), 189);
        // 4 asks 4, 1, 0: the first two like 0 and 1 more; 5 asks 5, who likes 3 more, and 3.
        Due.is("settled", x.settled(0), 523614);
        Due.is("settled", x.settled(1), 189);
        Due.is("settled", x.settled(2), 6);
        Due.is("would", x.would(0), 0);
        Due.is("would", x.would(1), 0);
        Due.is("swap", x.swap(0), -1);
        Due.is("ranks", x.ranks(5), 643125);
        Due.is("spare", x.spare(0), 0);
        Due.is("spare", x.spare(1), 180);
        // The lots by 6: 1, 0, 0, 1, 1, 5.
        Due.is("drawn", x.drawn(0, 1), 210006);
        Due.is("drawn", x.drawn(0, 0), 54);
        x.put(5, 1, 1);
        Due.is("spare the last", x.spare(0), 0);
        Due.is("spare the last", x.spare(1), 9 * (2 + 3 + 4 + 5 + 1));
        x.put(0, 1, 9000);
        Due.is("spare the last", x.spare(0), 5);
        Due.is("spare the last", x.spare(1), 9 * (9 + 2 + 3 + 4 + 5));
    }

    private static void fullWardAppointed() {
        sixOfBoth();
        x.film(0, 5);
        for (int i = 0; i < 6; i++) {
            Due.is("appoint", x.appoint(i, i), -1);
        }
        Due.is("count 3", x.count(3), 6);
        Due.is("all", x.all(), 189);
        Due.is("would", x.would(0), 0);
        Due.is("would", x.would(1), 4);
        Due.is("swap", x.swap(0), -1);
        Due.is("swap", x.swap(1), 189);
        Due.is("judge", x.judge(0, 5), -1);
        Due.is("judge", x.judge(0, 4), 0);
        Due.is("whose", x.whose(0), 32);
        Due.is("marks", x.marks(0, 5, 3), 1 << 6);
        Due.is("kinds", x.kinds(0, 5, 0), 1 + 2 + 32);
        x.image();
        Due.is("run", x.run(1, 15), 89);
        Due.is("run", x.run(1, 25), 5);
        Due.is("year", x.year(), 66);
        Due.is("the last child", x.told(5, 0), 89);
        Due.is("the last uncle", x.told(5, 2), 5);
        x.back();
        for (int i = 4; i < 6; i++) {
            x.appoint(i, -1);
        }
        x.appoint(4, 5);
        x.appoint(5, 4);
        Due.is("all", x.all(), 90);
        Due.is("swap the last two", x.swap(0), 45);
        Due.is("swap the last two", x.swap(1), 189);
        x.back();
        Due.is("the last child", x.told(5, 0), 99);
        Due.is("the last uncle", x.told(5, 2), 6);
        Due.is("who has whom", x.told(5, 1), 5);
    }

    /** By 1 is by more than 0; by 0 isn't. */
    private static void suitedByOne() {
        fresh();
        x.child(1000);
        x.child(1);
        x.uncle(0, 1000);
        Due.is("would", x.would(0), 0);
        Due.is("settled", x.settled(0), 10);
        Due.is("best", x.best(0), 10);
        x.appoint(0, 0);
        Due.is("year", x.run(1, 0), 1);
        x.appoint(0, -1);
        x.appoint(1, 0);
        Due.is("year", x.run(1, 0), 2);
        x.put(0, 0, 0);
        Due.is("would", x.would(0), -1);
        Due.is("settled", x.settled(0), 0);
        Due.is("best", x.best(0), 0);
    }
}
