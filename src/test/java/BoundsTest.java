import java.math.BigInteger;
import java.util.ArrayList;
import java.util.List;

/** Each bound that the document's Terms name, sentence by sentence. */
public final class BoundsTest {
    private static UnclesByWard x;

    private BoundsTest() {
    }

    public static void main(String[] args) {
        fourDigits();
        sixChildren();
        sixUncles();
        sixTexts();
        years();
        kindsAndMores();
        rooms();
        jollyAndDwarf();
        sad();
        orphan();
        likes();
        says();
        wrapping();
        names();
        yearBySuits();
        yearByNeeds();
        yearByMarks();
        yearInOrder();
        rows();
        settledByMoreThanZero();
        settledOfLikeOnes();
        settledByRoom();
        settledAsAllIsNow();
        lots();
        lotsByRoom();
        image();
        sheets();
        numbersOfSheets();
        Due.end();
    }

    private static void fourDigits() {
        Due.by("MARKS, NEEDS: four numbers, told as four digits (0 .. 9999), place 0 the highest");
        x = Wards.of(Wards.needs(7, 9876), 0, 50, 0, 4321);
        Wards.law(x, "need", "mark", "0");
        int[] needs = {0, 0, 0, 7, 9, 8, 7, 6};
        int[] marks = {0, 0, 5, 0, 4, 3, 2, 1};
        for (int i = 0; i < 2; i++) {
            for (int place = 0; place < 4; place++) {
                Due.is("need " + place, x.asks(0, 0, 10 * i + place), needs[4 * i + place]);
                Due.is("mark " + place, x.asks(1, i, place), marks[4 * i + place]);
            }
        }
        int[] edges = {0, 1, 9, 10, 99, 100, 999, 1000, 8999, 9998, 9999};
        for (int v : edges) {
            x.put(0, 0, v);
            x.put(1, 1, v);
            Due.is("needs", x.told(0, 0), v);
            Due.is("marks", x.told(1, 2), v);
            x = Wards.of(Wards.needs(v), 0, v);
            Due.is("needs as it comes", x.told(0, 0), v);
            Due.is("marks as he comes", x.told(0, 2), v);
            x = Wards.of(Wards.needs(0), 0, 0, 0, 0);
        }
    }

    private static void sixChildren() {
        Due.by("CHILDREN are numbered from 0 on, 6 at most: with NEEDS, and an UNCLE or none (as one comes)");
        x = Wards.of(Wards.needs(), 30, 0);
        for (int c = 0; c < 6; c++) {
            Due.is("its number", x.child(c), c);
            Due.is("how many", x.count(0), c + 1);
            Due.is("none as it comes", x.told(c, 1), -1);
            x.appoint(c, 0);
        }
        for (int i = 0; i < 3; i++) {
            Due.is("a seventh", x.child(0), -4);
        }
        Due.is("six", x.count(0), 6);
        Due.is("the last is as it came", x.told(5, 0), 5);
    }

    private static void sixUncles() {
        Due.by("UNCLES are numbered from 0 on, 6 at most: of a KIND, with MORE (0 .. 9), with MARKS");
        x = new UnclesByWard();
        for (int u = 0; u < 6; u++) {
            Due.is("his number", x.uncle(59 - u, u), u);
            Due.is("how many", x.count(1), u + 1);
        }
        for (int i = 0; i < 3; i++) {
            Due.is("a seventh", x.uncle(0, 0), -4);
        }
        Due.is("six", x.count(1), 6);
        Due.is("the last is as he came", x.told(5, 4), 4);
        Due.is("the last is as he came", x.told(5, 2), 5);
    }

    private static void sixTexts() {
        Due.by("TEXTS are numbered from 0 on, 6 at most; TEXT 0, at first, and THE LAW");
        x = Wards.of(Wards.needs(5), 0, 5);
        Due.is("one at first", x.count(4), 1);
        Due.is("the law at first", x.count(5), 0);
        for (int t = 1; t < 6; t++) {
            Due.is("a fault is none", Tape.read(x, "suits " + t + ";likes 0;tires mark*need*hired*year 0;"), -143);
            Due.is("its number", Tape.read(x, "suits " + t + ";likes " + t + "+" + t + ";tires " + t + "-1;"), t);
            Due.is("how many", x.count(4), t + 1);
            Due.is("the law stays", x.count(5), 0);
        }
        Due.is("a seventh", x.text(), -4);
        for (int t = 5; t > 0; t--) {
            x.force(t);
            Due.is("each says its own, suits", x.asks(0, 0, 3), t);
            Due.is("each says its own, likes", x.asks(1, 0, 3), 2 * t);
            Due.is("each says its own, tires", x.asks(2, 0, 3), t - 1);
        }
        x.force(0);
        Due.is("text 0, suits", x.asks(0, 0, 3), 25);
        Due.is("text 0, likes", x.asks(1, 0, 3), 4);
        Due.is("text 0, tires in year 0", x.asks(2, 0, 3), 1);
        x.put(0, 2, 2);
        Due.is("text 0, tires in year 2", x.asks(2, 0, 3), 1);
        x.put(0, 2, 3);
        Due.is("text 0, tires in year 3", x.asks(2, 0, 3), 0);
    }

    private static void years() {
        Due.by("YEAR (0 .. 99; 0 at first)");
        x = new UnclesByWard();
        Due.is("at first", x.count(2), 0);
        for (int y = 0; y < 99; y++) {
            Due.is("a year", x.year(), 0);
            Due.is("1 more", x.count(2), y + 1);
        }
        Due.is("no year behind 99", x.year(), -3);
        Due.is("year 99 stays", x.count(2), 99);
        Due.is("put 100", x.put(0, 2, 100), -7);
        Due.is("put -1", x.put(0, 2, -1), -7);
        Due.is("put 98", x.put(0, 2, 98), 99);
        Due.is("year 98 passes", x.year(), 0);
        Due.is("year 99", x.count(2), 99);
    }

    private static void kindsAndMores() {
        Due.by("of a KIND (0 .. 5), with MORE (0 .. 9)");
        for (int kindMore = 0; kindMore < 60; kindMore++) {
            x = Wards.of(Wards.needs(), kindMore, kindMore);
            Due.is("kind of " + kindMore, x.told(0, 3), kindMore / 10);
            Due.is("more of " + kindMore, x.told(0, 4), kindMore % 10);
        }
    }

    private static void rooms() {
        Due.by("ROOM: 1; JOLLY MORE by 5 (cut) more; DWARF 2 more than a JOLLY; AUNT 0, if YEAR modulo 10 is MORE");
        int[] usual = {1, 1, 1, 3, 1, 1};
        for (int kindMore = 0; kindMore < 60; kindMore++) {
            x = Wards.of(Wards.needs(), kindMore, 0);
            boolean isJolly = kindMore / 10 == 1 || kindMore / 10 == 3;
            int room = usual[kindMore / 10] + (isJolly && kindMore % 10 >= 5 ? 1 : 0);
            for (int year = 0; year < 100; year++) {
                x.put(0, 2, year);
                boolean isNone = kindMore >= 50 && year % 10 == kindMore % 10;
                Due.is("room of " + kindMore + " in " + year, x.told(0, 6), isNone ? 0 : room);
            }
        }
    }

    private static void jollyAndDwarf() {
        Due.by("JOLLY: SUITS twice MORE more at place 0; DWARF: SUITS 5 at place 3, else as a JOLLY");
        for (int more = 0; more < 10; more++) {
            x = Wards.of(Wards.needs(1234), 10 + more, 1234, 30 + more, 1234);
            Wards.law(x, "0", "0", "0");
            Due.is("jolly, by nothing", x.suit(0, 0, 0), 2 * more);
            Due.is("dwarf, by nothing", x.suit(0, 1, 0), 2 * more + 5);
            Wards.law(x, "50*(which=3)", "0", "0");
            Due.is("jolly, by place 3", x.suit(0, 0, 0), 2 * more + 50);
            Due.is("dwarf, by place 3", x.suit(0, 1, 0), 2 * more + 5);
            Wards.law(x, "50*(which=0)", "0", "0");
            Due.is("jolly, by place 0", x.suit(0, 0, 0), 2 * more + 50);
            Due.is("dwarf, by place 0", x.suit(0, 1, 0), 2 * more + 55);
            Wards.law(x, "99", "0", "0");
            Due.is("jolly, above what a text says", x.suit(0, 0, 0), 2 * more + 4 * 99);
            Due.is("dwarf, above what a text says", x.suit(0, 1, 0), 2 * more + 3 * 99 + 5);
        }
    }

    private static void sad() {
        Due.by("SAD: SUITS twice, if the NEED is above 6, else half (cut)");
        int[] said = {-99, -5, -2, -1, 0, 1, 2, 5, 99};
        int[] half = {-49, -2, -1, 0, 0, 0, 1, 2, 49};
        for (int i = 0; i < said.length; i++) {
            x = Wards.of(Wards.needs(0), 28, 5, 40, 7);
            Wards.law(x, said[i] + "*(which=0)", "0", "0");
            for (int need = 0; need < 10; need++) {
                x.put(0, 0, 1000 * need);
                int due = need > 6 ? 2 * said[i] : half[i];
                Due.is("sad, " + said[i] + " of need " + need, x.suit(0, 0, 0), due);
                Due.is("orphan, " + said[i] + " of need " + need, x.suit(0, 1, 0), due);
            }
        }
    }

    private static void orphan() {
        Due.by("ORPHAN: SUITS MORE more than a SAD, if MARK and NEED are the same");
        for (int which = 0; which < 16; which++) {
            int marks = 0;
            for (int place = 0; place < 4; place++) {
                boolean isSame = (which >> place & 1) == 1;
                marks = marks * 10 + (isSame ? 2 * place : 2 * place + 1);
            }
            x = Wards.of(Wards.needs(246), 47, marks, 40, marks, 49, marks);
            Wards.law(x, "0", "0", "0");
            Due.is("more 7", x.suit(0, 0, 0), 7 * Integer.bitCount(which));
            Due.is("more 0", x.suit(0, 1, 0), 0);
            Due.is("more 9", x.suit(0, 2, 0), 9 * Integer.bitCount(which));
        }
        x = Wards.of(Wards.needs(9999), 49, 9999);
        Wards.law(x, "99", "0", "0");
        Due.is("twice, and more, at each place", x.suit(0, 0, 0), 4 * (2 * 99 + 9));
    }

    private static void likes() {
        Due.by("LIKES: the text at all four places, together; SAD as much more as all four NEEDS are; ORPHAN 0 less a SAD's; "
            + "AUNT 0, if all four NEEDS, together, are above 20");
        int[] needs = {0, 1, 1000, 9920, 5555, 299, 9921, 5556, 399, 9999};
        int[] sums = {0, 1, 1, 20, 20, 20, 21, 21, 21, 36};
        for (int i = 0; i < needs.length; i++) {
            x = Wards.of(Wards.needs(needs[i]), 9, 0, 19, 0, 29, 0, 39, 0, 49, 0, 59, 0);
            Wards.law(x, "0", "which+1", "0");
            int[] due = {10, 10, 10 + sums[i], 10, -10 - sums[i], sums[i] > 20 ? 0 : 10};
            Wards.law(x, "0", "-99", "0");
            int[] dueBelow = {-396, -396, -396 + sums[i], -396, 396 - sums[i], sums[i] > 20 ? 0 : -396};
            for (int u = 0; u < 6; u++) {
                x.force(1);
                Due.is("kind " + u + " likes needs " + needs[i], x.suit(0, u, 1), due[u]);
                x.force(2);
                Due.is("kind " + u + " likes needs " + needs[i], x.suit(0, u, 1), dueBelow[u]);
            }
        }
    }

    private static void says() {
        Due.by("suits, likes -99 .. 99, tires 0 .. 9, else the bound");
        String[] e = {"98", "99", "100", "9999", "-98", "-99", "-100", "-9999", "9999*9999", "-9999*9999"};
        int[] signed = {98, 99, 99, 99, -98, -99, -99, -99, 99, -99};
        for (int i = 0; i < e.length; i++) {
            x = Wards.of(Wards.needs(0), 0, 0);
            Wards.law(x, e[i], e[i], e[i]);
            Due.is("suits " + e[i], x.asks(0, 0, 0), signed[i]);
            Due.is("likes " + e[i], x.asks(1, 0, 0), signed[i]);
            Due.is("tires " + e[i], x.asks(2, 0, 0), signed[i] > 0 ? 9 : 0);
            Due.is("suits of four", x.suit(0, 0, 0), 4 * signed[i]);
            Due.is("likes of four", x.suit(0, 0, 1), 4 * signed[i]);
        }
        String[] tires = {"-1", "0", "1", "8", "9", "10"};
        int[] due = {0, 0, 1, 8, 9, 9};
        for (int i = 0; i < tires.length; i++) {
            x = Wards.of(Wards.needs(0), 0, 0);
            Wards.law(x, "0", "0", tires[i]);
            Due.is("tires " + tires[i], x.asks(2, 0, 0), due[i]);
        }
    }

    /** The greatest int is 32768 * 65536 - 1: what is 1 more than that is the least. */
    private static void wrapping() {
        Due.by("An E is an int (32 bits, wrapping): of or, and, not, <, = 1 or 0 (what is not 0 is true)");
        String least = "4096*4096*128";
        String[] e = {least + "<0", least + "-1<0", least + "-1+1<0", "-(" + least + ")=" + least, "0-" + least + "<0",
            least + "<" + least + "-1", least + "*2", least + "+" + least, "not " + least, least + " and 1",
            least + " or 0", "not(" + least + "*2)", "4096*4096*256=0", "9999*9999*22<0", "9999*9999*21<0",
            "(" + least + "-1)*(" + least + "-1)", "-1-1-1", "not -1", "-1 and -1", "2 and 4", "2 or 4", "not 2", "5=5", "5<5", "0 and 1", "1 and 0",
            "0 and 0", "0 or 0", "0 or 1", "1 or 0"};
        int[] due = {1, 0, 1, 1, 1, 1, 0, 0, 0, 1, 1, 1, 1, 1, 0, 1, -3, 0, 1, 1, 1, 0, 1, 0, 0, 0, 0, 0, 1, 1};
        for (int i = 0; i < e.length; i++) {
            x = Wards.of(Wards.needs(0), 0, 0);
            Wards.law(x, e[i], "0", "0");
            Due.is(e[i], x.asks(0, 0, 0), due[i]);
        }
    }

    private static void names() {
        Due.by("of an UNCLE, a CHILD, a place: mark; need (of tires 0); which: the place; year: YEAR; "
            + "hired: how many CHILDREN have that UNCLE; more: MORE");
        x = Wards.of(Wards.needs(1234, 0, 0, 9008), 39, 5678, 2, 9000);
        Wards.law(x, "mark*10+need", "which*10+hired", "more");
        int[] suited = {51, 62, 73, 84};
        for (int place = 0; place < 4; place++) {
            Due.is("mark, need at " + place, x.asks(0, 0, place), suited[place]);
            Due.is("which, hired by none", x.asks(1, 0, place), 10 * place);
        }
        Due.is("the last of another child", x.asks(0, 0, 33), 88);
        for (int c = 0; c < 4; c++) {
            x.appoint(c, 0);
            Due.is("hired by so many", x.asks(1, 0, 2), 21 + c);
            Due.is("whichever child it is", x.asks(1, 0, 32), 21 + c);
            Due.is("the other by none", x.asks(1, 1, 2), 20);
        }
        Due.is("more 9", x.asks(2, 0, 0), 9);
        Due.is("more 2", x.asks(2, 1, 0), 2);
        Wards.law(x, "year", "year-50", "need");
        int[] years = {0, 1, 50, 98, 99};
        for (int year : years) {
            x.put(0, 2, year);
            Due.is("year", x.asks(0, 1, 0), year);
            Due.is("year", x.asks(1, 1, 0), year - 50);
        }
        Due.is("need is the need here", x.asks(2, 0, 33), 8);
        x.put(0, 2, 0);
        x.appoint(3, 1);
        x.year();
        Due.is("but 0 as a year passes", x.told(0, 2), 5678);
        Due.is("but 0 as a year passes", x.told(1, 2), 9000);
    }

    private static void yearBySuits() {
        Due.by("A YEAR: of those that have an UNCLE: if he SUITS it by more than 0, its greatest NEED is 1 less");
        String[] suits = {"-1", "0-(which=3)", "0", "which=3", "1"};
        int[] due = {55, 55, 55, 45, 45};
        for (int i = 0; i < suits.length; i++) {
            x = Wards.of(Wards.needs(55, 55), 0, 0);
            Wards.law(x, suits[i], "0", "0");
            x.appoint(1, 0);
            Due.is("a year in thought", x.run(1, 11), due[i]);
            Due.is("a year", x.year(), 10 + (due[i] == 55 ? 10 : 9));
            Due.is("the one that has him", x.told(1, 0), due[i]);
            Due.is("the one that has none", x.told(0, 0), 55);
        }
    }

    private static void yearByNeeds() {
        Due.by("its greatest NEED, the first of like ones, is 1 less (0 at least)");
        int[] needs = {0, 1, 10, 100, 1000, 1111, 111, 11, 9999, 999, 1002, 2001, 3233, 1232, 4544, 5454, 9090, 909, 8998};
        int[] due = {0, 0, 0, 0, 0, 111, 11, 1, 8999, 899, 1001, 1001, 2233, 1222, 4444, 4454, 8090, 809, 8898};
        for (int i = 0; i < needs.length; i++) {
            x = Wards.of(Wards.needs(needs[i]), 0, 0);
            Wards.law(x, "1", "0", "0");
            x.appoint(0, 0);
            Due.is("needs " + needs[i], x.run(1, 10), due[i]);
            Due.is("in the end none is left", x.run(36, 0), 0);
            Due.is("nor below", x.run(40, 0), 0);
        }
        x = Wards.of(Wards.needs(9999), 0, 0);
        Wards.law(x, "1", "0", "0");
        x.appoint(0, 0);
        for (int n = 0; n <= 40; n++) {
            Due.is("one less each year", x.run(n, 0), Math.max(0, 36 - n));
        }
    }

    private static void yearByMarks() {
        Due.by("then each MARK of his is less by what tires says (0 at least; all told as it is then)");
        String[] tires = {"-5", "0", "1", "4", "9", "10", "mark", "which", "which*3", "mark=5", "mark-need", "hired", "more", "year"};
        int[] due = {5059, 5059, 4048, 1015, 0, 0, 0, 5036, 5000, 4049, 0, 4048, 2026, 3037};
        for (int i = 0; i < tires.length; i++) {
            x = Wards.of(Wards.needs(7777), 3, 5059, 5, 5059);
            Wards.law(x, "0", "0", tires[i]);
            x.appoint(0, 0);
            x.put(0, 2, 2);
            Due.is("tires " + tires[i], x.run(1, 20), due[i]);
            x.year();
            Due.is("tires " + tires[i], x.told(0, 2), due[i]);
            Due.is("whom nobody has isn't tired", x.told(1, 2), 5059);
        }
        x = Wards.of(Wards.needs(0, 0, 0), 34, 9999);
        Wards.law(x, "0", "0", "hired");
        for (int c = 0; c < 3; c++) {
            x.appoint(c, 0);
            // As many have him, so much he is tired, and so often.
            Due.is("of " + (c + 1), x.run(1, 20), 1111 * Math.max(0, 9 - (c + 1) * (c + 1)));
        }
        Wards.law(x, "0", "0", "mark<8");
        Due.is("by the mark as it is then", x.run(1, 20), 9999);
        x.put(0, 1, 7893);
        Due.is("by the mark as it is then", x.run(1, 20), 4890);
    }

    private static void yearInOrder() {
        Due.by("A YEAR: CHILD by CHILD, by numbers; at last YEAR is 1 more");
        // The first tires him by all he has: he suits the second by 0.
        x = Wards.of(Wards.needs(5000, 5000, 5000), 34, 9000);
        Wards.law(x, "mark-8*more*(which=1)", "0", "9");
        x.put(0, 2, 5);
        x.appoint(0, 0);
        x.appoint(1, 0);
        // 9 - 32 + 8 + 5 is below 0.
        Due.is("nobody is suited", x.run(1, 0), 15);
        Wards.law(x, "mark*9-13*(which=1)", "0", "9");
        // 81 - 13 + 8 + 5 is above 0, then 0 - 13 + 8 + 5 isn't.
        Due.is("the first of two", x.run(1, 10), 4000);
        Due.is("the second of two", x.run(1, 11), 5000);
        Wards.law(x, "year=5", "0", "year=5");
        Due.is("year is 1 more at last", x.run(1, 20), 7000);
        Due.is("year is 1 more at last", x.run(1, 11), 4000);
        Due.is("year is 1 more then", x.run(2, 20), 7000);
        x.put(0, 2, 98);
        x.year();
        Due.is("a year behind which is none", x.count(2), 99);
        Wards.law(x, "1", "0", "year<100");
        Due.is("in thought it passes", x.run(1, 20), 7000);
        Due.is("in thought it passes", x.run(3, 20), 7000);
    }

    private static void rows() {
        Due.by("ROWS: of each CHILD, by numbers, 1 more than its UNCLE, 0 none, the first the highest (no CHILDREN: 0)");
        x = Wards.of(Wards.needs(), 0, 9999);
        Due.is("no children, best", x.best(0), 0);
        Due.is("no children, settled", x.settled(0), 0);
        Due.is("no children, drawn", x.drawn(1, 1), 0);
        // Each needs at one place alone, and each uncle has a mark at one.
        x = Wards.of(Wards.needs(9, 90, 9, 90, 900, 9000), 0, 9000, 0, 900, 0, 90, 0, 9, 0, 90, 0, 9);
        Wards.law(x, "mark*need", "0", "0");
        Due.is("the first the highest", x.best(0), 436521);
        x = Wards.of(Wards.needs(9, 9, 90, 90, 900, 9000), 0, 900, 0, 9000, 0, 90, 0, 90, 0, 9, 0, 8);
        Due.is("a row that begins with 6", x.best(0), 563412);
        x.put(0, 0, 8);
        Due.is("a row that begins with 6", x.best(0), 653412);
        Due.is("how much", x.best(1), 8 * 8 + 5 * 81);
        x.put(1, 0, 0);
        x.put(5, 1, 9);
        x.put(4, 1, 1);
        Due.is("the last uncle for the first child", x.best(0), 603412);
        Due.is("how much", x.best(1), 72 + 4 * 81);
    }

    private static void settledByMoreThanZero() {
        Due.by("an UNCLE who SUITS it by more than 0 whom it hasn't asked yet");
        String[] suits = {"-1", "0-(which=0)", "0", "which=0", "1"};
        for (int i = 0; i < suits.length; i++) {
            x = Wards.of(Wards.needs(0, 0), 0, 0, 0, 0);
            Wards.law(x, suits[i], "0", "0");
            Due.is("settled", x.settled(0), i < 3 ? 0 : 12);
            Due.is("settled", x.settled(2), i < 3 ? 0 : 2);
        }
    }

    private static void settledOfLikeOnes() {
        Due.by("it asks the one who SUITS it most, of like ones the first; he lets go of the one he LIKES least, "
            + "of like ones the greatest number");
        x = Wards.of(Wards.needs(1000, 1000, 1000), 0, 4000, 0, 5000, 0, 5000, 0, 4000);
        Due.is("the first of the most; the greatest number goes", x.settled(0), 231);
        x.put(0, 0, 1100);
        Due.is("he likes one by 1 less", x.settled(0), 123);
        x.put(1, 0, 1100);
        Due.is("he likes two by 1 less, of these the greatest goes first", x.settled(0), 312);
        // Whom he keeps already has the lesser number, or the greater one.
        x = Wards.of(Wards.needs(1000, 2000), 0, 9000, 2, 8000);
        Wards.law(x, "mark*need+more*9*(need=2)", "0", "0");
        // 0 asks uncle 0 first, 1 asks uncle 1: 9 to 8 and 18 to 34.
        Due.is("each its own", x.settled(0), 12);
        x.put(0, 0, 2000);
        Due.is("1 asked behind 0 and goes", x.settled(0), 21);
        // 2 takes uncle 0 from 0, which asks uncle 1 then, who keeps 1 and likes both alike.
        x = Wards.of(Wards.needs(5000, 500, 1000), 0, 9000, 0, 8900);
        Due.is("the one that asks has the lesser number", x.settled(0), 201);
        x.put(0, 0, 5001);
        Due.is("he likes it by 1 less", x.settled(0), 21);
        x.put(1, 0, 501);
        Due.is("alike again", x.settled(0), 201);
    }

    private static void settledByRoom() {
        Due.by("if he keeps more than there is ROOM, he lets go");
        int[] uncles = {5, 14, 15, 34, 35};
        int[] rooms = {1, 1, 2, 3, 4};
        for (int i = 0; i < uncles.length; i++) {
            x = Wards.of(Wards.needs(1000, 2000, 3000, 4000, 5000, 6000), uncles[i], 9000);
            Due.is("as many as there is room", x.settled(2), rooms[i]);
            int all = 111111;
            int tens = 1;
            for (int c = 5; c >= rooms[i]; c--) {
                all -= tens;
                tens *= 10;
            }
            Due.is("whom he likes most", x.settled(0), all);
        }
        x = Wards.of(Wards.needs(1000), 53, 9000, 0, 1000);
        Due.is("an aunt with room", x.settled(0), 1);
        x.put(0, 2, 3);
        Due.is("without room, and another is asked", x.settled(0), 2);
    }

    private static void settledAsAllIsNow() {
        Due.by("SETTLED, as all is now: nobody is kept at first");
        x = Wards.of(Wards.needs(1000, 1000), 0, 5000, 0, 5000);
        Wards.law(x, "5-9*hired+mark*(which=0)", "need*hired", "0");
        Due.is("nobody has one", x.settled(0), 12);
        Due.is("nobody has one", x.settled(1), 50);
        x.appoint(0, 0);
        // Each is suited by 25 less 36 by him now.
        Due.is("whom one has suits less", x.settled(0), 20);
        Due.is("by hired as it is now", x.settled(1), 25);
        x.appoint(1, 1);
        Due.is("nobody suits", x.settled(0), 0);
    }

    private static void lots() {
        Due.by("LOTS: the first is (SEED and 1) times 48271 modulo 2147483647, each further one the last times 48271 modulo 2147483647");
        int[] seeds = {0, 1, 2, 44488, 44489, 12345, 99998, 99999};
        for (int seed : seeds) {
            for (int uncles = 1; uncles < 7; uncles++) {
                x = Wards.of(Wards.needs(0, 0, 0, 0));
                for (int u = 0; u < uncles; u++) {
                    x.uncle(39, 0);
                }
                BigInteger lot = BigInteger.valueOf(seed + 1);
                int row = 0;
                for (int c = 0; c < 4; c++) {
                    lot = lot.multiply(BigInteger.valueOf(48271)).mod(BigInteger.valueOf(Integer.MAX_VALUE));
                    row = row * 10 + 1 + lot.mod(BigInteger.valueOf(uncles)).intValue();
                }
                Due.is("seed " + seed + " of " + uncles, x.drawn(seed, 1), row);
            }
        }
    }

    private static void lotsByRoom() {
        Due.by("it has UNCLE LOT modulo (how many UNCLES there are), if he has ROOM for one more than so far has him by this; "
            + "else none (no UNCLES: none)");
        int[] uncles = {5, 15, 34, 35};
        int[] rows = {100000, 110000, 111000, 111100};
        for (int i = 0; i < uncles.length; i++) {
            x = Wards.of(Wards.needs(1000, 1000, 1000, 1000, 1000, 1000), uncles[i], 1000);
            Due.is("room for so many", x.drawn(99999, 1), rows[i]);
            x.appoint(5, 0);
            Due.is("whoever has him now", x.drawn(99999, 1), rows[i]);
        }
        x = Wards.of(Wards.needs(1000, 1000), 53, 1000);
        Due.is("an aunt", x.drawn(3, 1), 10);
        x.put(0, 2, 93);
        Due.is("an aunt without room", x.drawn(3, 1), 0);
        x = Wards.of(Wards.needs(1000, 1000));
        Due.is("no uncles", x.drawn(3, 1), 0);
        Due.is("no uncles", x.drawn(3, 0), 0);
        // Six of both, each of room 1: whatever the seed, no uncle comes twice, and the ward stays whole.
        x = Wards.of(Wards.needs(0, 0, 0, 0, 0, 0), 0, 0, 0, 0, 0, 0, 0, 0, 0, 0, 0, 0);
        for (int seed = 0; seed < 500; seed++) {
            int row = x.drawn(seed, 1);
            List<Integer> had = new ArrayList<>();
            for (int rest = row; rest > 0; rest /= 10) {
                Due.holds("none twice: " + row, rest % 10 == 0 || !had.contains(rest % 10));
                had.add(rest % 10);
            }
        }
    }

    private static void image() {
        Due.by("AN IMAGE keeps NEEDS, MARKS, who has whom, YEAR, how many CHILDREN, UNCLES there are, THE LAW");
        x = Wards.full();
        x.image();
        List<Long> due = Wards.seen(x);
        x = Wards.full();
        x.image();
        for (int i = 0; i < 6; i++) {
            x.put(i, 0, 1111 * i);
            x.put(i, 1, 1111 * i);
            x.appoint(i, -1);
        }
        x.put(0, 2, 7);
        x.force(2);
        Due.is("back", x.back(), 6);
        Due.holds("all is as it was", Wards.seen(x).equals(due));
        x = Wards.full();
        Due.is("back to nothing", x.back(), 0);
        Due.is("no children", x.count(0), 0);
        Due.is("year 0", x.count(2), 0);
        Due.is("nobody has one", x.count(3), 0);
        Due.is("the texts stay", x.count(4), 6);
        Due.is("the law", x.count(5), 0);
        Due.is("the tape stays", x.count(6), 160);
        for (int s = 0; s < 4; s++) {
            Due.is("the sheets stay", x.cell(s, 39, 0), 1);
        }
    }

    private static void sheets() {
        Due.by("SHEETS 0 .. 3 are rows of numbers, or missing (as all are at first): of sort 0 bytes, 1 shorts, 2 ints, 40 at most");
        x = new UnclesByWard();
        for (int s = 0; s < 4; s++) {
            Due.is("missing at first", x.cell(s, 0, 1), -11);
        }
        for (int s = 0; s < 4; s++) {
            for (int sort = 0; sort < 3; sort++) {
                Due.is("40", x.sheet(s, sort, 40), 1);
                Due.is("the last", x.cell(s, 39, 1), 1);
                Due.is("behind the last", x.cell(s, 40, 1), -12);
                Due.is("41", x.sheet(s, sort, 41), -2);
                Due.is("it stays", x.cell(s, 39, 1), 1);
                Due.is("of its sort", x.unclesBy(s, sort, 0, 0), 0);
                Due.is("of no other", x.unclesBy(s, (sort + 1) % 3, 0, 0), -13);
                Due.is("0", x.sheet(s, sort, 0), 1);
                Due.is("nothing in it", x.cell(s, 0, 1), -12);
            }
        }
        Due.is("the others stay", x.sheet(1, -1, 0), 1);
        Due.is("the others stay", x.cell(1, 0, 1), -11);
        Due.is("the others stay", x.cell(2, 0, 1), -12);
    }

    /** An UNCLE by each number tells what it is, if it can be MARKS. */
    private static void numbersOfSheets() {
        Due.by("cell: of bytes, shorts its lowest 8, 16 bits");
        int[] v = {0, 127, 128, 255, 256, 383, 384, 511, 512, 9999, 10000, 32767, 32768, 65535, 65536, 75535, 75536, -1, -128, -129,
            Integer.MIN_VALUE, Integer.MIN_VALUE + 99, Integer.MAX_VALUE};
        int[] ofBytes = {0, 127, -1, -1, 0, 127, -1, -1, 0, 15, 16, -1, 0, -1, 0, 15, 16, -1, -1, 127, 0, 99, -1};
        int[] ofShorts = {0, 127, 128, 255, 256, 383, 384, 511, 512, 9999, -1, -1, -1, -1, 0, 9999, -1, -1, -1, -1, 0, 99, -1};
        int[] ofInts = {0, 127, 128, 255, 256, 383, 384, 511, 512, 9999, -1, -1, -1, -1, -1, -1, -1, -1, -1, -1, -1, -1, -1};
        for (int i = 0; i < v.length; i++) {
            marksBy(0, v[i], ofBytes[i]);
            marksBy(1, v[i], ofShorts[i]);
            marksBy(2, v[i], ofInts[i]);
        }
    }

    /** Below 0: the number is none that MARKS can be. */
    private static void marksBy(int sort, int v, int due) {
        x = new UnclesByWard();
        x.sheet(0, sort, 2);
        Due.is("cell", x.cell(0, 1, v), 1);
        Due.is("an uncle by " + v + " of sort " + sort, x.unclesBy(0, sort, 0, 1), due < 0 ? 0 : 1);
        Due.is("his marks by " + v + " of sort " + sort, x.told(0, 2), due < 0 ? -5 : due);
    }
}
