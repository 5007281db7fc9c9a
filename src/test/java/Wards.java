import java.util.ArrayList;
import java.util.List;

/** Wards that tests begin with, and all that can be seen of a ward. */
final class Wards {
    /** The sorts and lengths of the SHEETS of some(): the first is missing. */
    private static final int[] SORTS = {-1, 0, 1, 2}, LENGTHS = {0, 4, 6, 4};

    private Wards() {
    }

    /** UNCLES are told two by two, as of uncle(). */
    static UnclesByWard of(int[] needs, int... uncles) {
        UnclesByWard x = new UnclesByWard();
        for (int n : needs) {
            x.child(n);
        }
        for (int i = 0; i + 1 < uncles.length; i += 2) {
            x.uncle(uncles[i], uncles[i + 1]);
        }
        return x;
    }

    static int[] needs(int... needs) {
        return needs;
    }

    /** A TEXT is read, and is THE LAW. */
    static void law(UnclesByWard x, String suits, String likes, String tires) {
        String text = "suits " + suits + ";likes " + likes + ";tires " + tires + ";";
        int t = Tape.read(x, text);
        Due.holds("it is a text: " + text, t > 0);
        x.force(t);
    }

    static void sheet(UnclesByWard x, int s, int sort, int... numbers) {
        x.sheet(s, sort, numbers.length);
        for (int i = 0; i < numbers.length; i++) {
            x.cell(s, i, numbers[i]);
        }
    }

    /** Three CHILDREN, two UNCLES, three TEXTS, YEAR 5, some of THE TAPE, AN IMAGE of less, SHEETS of every sort. */
    static UnclesByWard some() {
        UnclesByWard x = of(needs(1234, 9705), 15, 3456);
        law(x, "mark*need-more", "9-need+hired", "1");
        x.appoint(1, 0);
        x.put(0, 2, 2);
        x.image();
        x.child(808);
        x.uncle(47, 808);
        x.appoint(0, 0);
        x.appoint(2, 1);
        law(x, "mark*need+which-20*hired", "need-year", "year<9");
        x.put(0, 2, 5);
        x.put(1, 0, 9700);
        Tape.feed(x, "suits 1");
        sheet(x, 1, 0, 21, 99, 47, 7);
        sheet(x, 2, 1, 31, 9999, 60, 1, 5, 808);
        sheet(x, 3, 2, 59, 4321, 33, 7);
        return x;
    }

    /** Six of all that there are six of at most, THE TAPE full, YEAR 99, a SHEET of 40; AN IMAGE of nothing. */
    static UnclesByWard full() {
        UnclesByWard x = new UnclesByWard();
        x.image();
        for (int i = 0; i < 6; i++) {
            x.child(1357 * i + 9);
            x.uncle(11 * i, 9876 - 1111 * i);
        }
        for (int t = 1; t < 6; t++) {
            law(x, "mark*need-" + t, "need-" + t, "" + t);
        }
        for (int i = 0; i < 6; i++) {
            x.appoint(i, i);
        }
        x.put(0, 2, 99);
        for (int i = 0; i < 32; i++) {
            x.feed(5, 'm', 'a', 'r', 'k', ' ');
        }
        for (int s = 0; s < 4; s++) {
            x.sheet(s, s % 3, 40);
            x.cell(s, 39, s + 1);
        }
        return x;
    }

    /** All that can be seen of a ward; the ward is changed by it. */
    static List<Long> seen(UnclesByWard x) {
        List<Long> seen = new ArrayList<>();
        addTold(seen, x);
        addThoughts(seen, x);
        addTape(seen, x);
        addSheets(seen, x);
        return seen;
    }

    private static void addTold(List<Long> seen, UnclesByWard x) {
        for (int what = 0; what < 7; what++) {
            seen.add((long) x.count(what));
        }
        for (int of = 0; of < 6; of++) {
            for (int what = 0; what < 7; what++) {
                seen.add((long) x.told(of, what));
            }
        }
    }

    private static void addThoughts(List<Long> seen, UnclesByWard x) {
        for (int c = 0; c < 6; c++) {
            for (int u = 0; u < 6; u++) {
                seen.add((long) x.suit(c, u, 0));
                seen.add((long) x.suit(c, u, 1));
            }
            seen.add((long) x.ranks(c));
            seen.add((long) x.run(3, 10 + c));
            seen.add((long) x.run(2, 20 + c));
        }
        for (int what = 0; what < 2; what++) {
            seen.add((long) x.best(what));
            seen.add((long) x.settled(what));
            seen.add((long) x.would(what));
            seen.add((long) x.swap(what));
            seen.add((long) x.spare(what));
            seen.add((long) x.drawn(77, what));
            seen.add(x.odds(9, 60, 40, what));
        }
        seen.add((long) x.all());
        seen.add((long) x.settled(2));
    }

    /** What was on THE TAPE is seen by a TEXT that begins with it. */
    private static void addTape(List<Long> seen, UnclesByWard x) {
        Tape.feed(x, ";likes 2;tires 3;");
        int t = x.text();
        seen.add((long) t);
        int was = x.force(t);
        seen.add((long) was);
        for (int part = 0; part < 3; part++) {
            seen.add((long) x.asks(part, 0, 0));
        }
        x.force(was);
    }

    /** SHEETS are seen by the UNCLES that come by them, THE IMAGE by going back to it, as there is room only then. */
    private static void addSheets(List<Long> seen, UnclesByWard x) {
        for (int s = 0; s < 4; s++) {
            seen.add((long) x.cell(s, LENGTHS[s], 0));
            seen.add((long) x.copy(s, 0, s, 0, LENGTHS[s]));
            for (int i = 0; i + 1 < LENGTHS[s]; i += 2) {
                seen.add((long) x.back());
                seen.add((long) x.unclesBy(s, SORTS[s], i, 1));
                int last = x.count(1) - 1;
                seen.add(10L * x.told(last, 3) + x.told(last, 4));
                seen.add((long) x.told(last, 2));
            }
        }
        seen.add((long) x.back());
        addTold(seen, x);
        seen.add((long) x.all());
    }
}
