import java.util.List;
import java.util.function.Supplier;

/** Each refusal of each promise, of several the first one told; and that neither it nor what is asked changes anything. */
public final class RefusalsTest {
    private static final int LOW = Integer.MIN_VALUE, HIGH = Integer.MAX_VALUE;
    private static final long NO = UnclesByWard.NO;
    private static final int[] NOT_TWO = {LOW, -7, -1, 2, 3, HIGH};

    private interface Call {
        long on(UnclesByWard x);
    }

    private final Supplier<UnclesByWard> made;
    private final List<Long> untouched;

    private RefusalsTest(Supplier<UnclesByWard> made) {
        this.made = made;
        untouched = Wards.seen(made.get());
    }

    public static void main(String[] args) {
        RefusalsTest some = new RefusalsTest(Wards::some);
        some.children();
        some.texts();
        some.uncles();
        some.suits();
        some.bests();
        some.told();
        some.lists();
        some.sheets();
        some.unclesByOne();
        some.takenOnes();
        some.asked();
        new RefusalsTest(Wards::full).full();
        new RefusalsTest(UnclesByWard::new).empty();
        unclesAheadOfAPlaceOutside();
        Due.end();
    }

    /** A call answers what is due, and then the ward is as one that nobody called. */
    private void due(String name, long want, Call call) {
        UnclesByWard x = made.get();
        Due.is(name, call.on(x), want);
        Due.holds(name + " changes nothing", Wards.seen(x).equals(untouched));
    }

    /** What is asked changes nothing, whatever it answers. */
    private void asks(String name, Call call) {
        UnclesByWard x = made.get();
        long first = call.on(x);
        Due.is(name + " again", call.on(x), first);
        Due.holds(name + " changes nothing", Wards.seen(x).equals(untouched));
    }

    private void children() {
        Due.by("count: 0 .. 6. BAD");
        for (int what : new int[] {LOW, -1, 7, 8, HIGH}) {
            due("count " + what, -2, x -> x.count(what));
        }
        Due.by("child: BAD; FULL");
        for (int needs : new int[] {LOW, -9999, -1, 10000, 99999, HIGH}) {
            due("child " + needs, -2, x -> x.child(needs));
        }
        Due.by("put: -5: no such; -7: what, v");
        for (int of : new int[] {LOW, -1, 3, 6, HIGH}) {
            due("put of " + of, -5, x -> x.put(of, 0, 1));
            due("put of " + of + " ahead of v", -5, x -> x.put(of, 0, 10000));
        }
        for (int of : new int[] {LOW, -1, 2, 6, HIGH}) {
            due("put of " + of, -5, x -> x.put(of, 1, 1));
            due("put of " + of + " ahead of v", -5, x -> x.put(of, 1, -1));
        }
        for (int v : new int[] {LOW, -1, 10000, HIGH}) {
            due("put needs " + v, -7, x -> x.put(2, 0, v));
            due("put marks " + v, -7, x -> x.put(1, 1, v));
        }
        for (int v : new int[] {LOW, -1, 100, 9999, HIGH}) {
            due("put year " + v, -7, x -> x.put(0, 2, v));
            due("put year " + v + " of what doesn't matter", -7, x -> x.put(HIGH, 2, v));
        }
        for (int what : new int[] {LOW, -1, 3, HIGH}) {
            due("put what " + what, -7, x -> x.put(0, what, 1));
        }
        Due.by("told: -7: what; -5: no such");
        for (int what : new int[] {LOW, -1, 7, HIGH}) {
            due("told what " + what, -7, x -> x.told(0, what));
            due("told what " + what + " ahead of no such", -7, x -> x.told(-1, what));
        }
        for (int what = 0; what < 7; what++) {
            int w = what;
            for (int of : new int[] {LOW, -1, w < 2 ? 3 : 2, 6, HIGH}) {
                due("told " + of + " " + w, -5, x -> x.told(of, w));
            }
        }
    }

    private void texts() {
        Due.by("feed: BAD: n, any of the five");
        for (int n : new int[] {LOW, -1, 0, 6, HIGH}) {
            due("feed n " + n, -2, x -> x.feed(n, 1, 1, 1, 1, 1));
        }
        for (int b : new int[] {LOW, -1, 256, 257, HIGH}) {
            due("feed a " + b, -2, x -> x.feed(5, b, 1, 1, 1, 1));
            due("feed b " + b, -2, x -> x.feed(1, 1, b, 1, 1, 1));
            due("feed c " + b, -2, x -> x.feed(2, 1, 1, b, 1, 1));
            due("feed d " + b, -2, x -> x.feed(3, 1, 1, 1, b, 1));
            due("feed e " + b, -2, x -> x.feed(4, 1, 1, 1, 1, b));
        }
        Due.by("force: BAD");
        for (int t : new int[] {LOW, -1, 3, 5, 6, HIGH}) {
            due("force " + t, -2, x -> x.force(t));
        }
        Due.by("asks: -1000: none such");
        for (int part : new int[] {LOW, -1, 3, HIGH}) {
            due("asks part " + part, -1000, x -> x.asks(part, 0, 0));
        }
        for (int u : new int[] {LOW, -1, 2, 6, HIGH}) {
            due("asks of " + u, -1000, x -> x.asks(0, u, 0));
        }
        for (int place : new int[] {LOW, -100, -10, -1, 4, 9, 14, 19, 24, 29, 30, 33, 60, 100, HIGH}) {
            due("asks at " + place, -1000, x -> x.asks(1, 1, place));
        }
    }

    private void uncles() {
        Due.by("uncle: BAD; FULL");
        for (int v : new int[] {LOW, -1, 60, 61, 100, HIGH}) {
            due("uncle " + v, -2, x -> x.uncle(v, 0));
        }
        for (int v : new int[] {LOW, -1, 10000, HIGH}) {
            due("uncle of marks " + v, -2, x -> x.uncle(0, v));
            due("uncle of both " + v, -2, x -> x.uncle(v, v));
        }
    }

    private void suits() {
        Due.by("suit: -1000005: no such; -1000007: what");
        for (int c : new int[] {LOW, -1, 3, 6, HIGH}) {
            due("suit child " + c, -1000005, x -> x.suit(c, 0, 0));
            due("suit child " + c + " ahead of what", -1000005, x -> x.suit(c, 0, 2));
        }
        for (int u : new int[] {LOW, -1, 2, 6, HIGH}) {
            due("suit uncle " + u, -1000005, x -> x.suit(0, u, 1));
            due("suit uncle " + u + " ahead of what", -1000005, x -> x.suit(0, u, -1));
        }
        for (int what : NOT_TWO) {
            due("suit what " + what, -1000007, x -> x.suit(0, 0, what));
        }
        Due.by("appoint: -5: no such; STATE: he isn't the one it has, and has as many as ROOM, or more");
        for (int c : new int[] {LOW, -1, 3, 6, HIGH}) {
            due("appoint child " + c, -5, x -> x.appoint(c, 0));
            due("appoint child " + c + " none", -5, x -> x.appoint(c, -1));
        }
        for (int u : new int[] {LOW, -2, 2, 6, HIGH}) {
            due("appoint uncle " + u, -5, x -> x.appoint(0, u));
        }
        due("appoint without room", -3, x -> x.appoint(0, 1));
        due("appoint without room", -3, x -> x.appoint(2, 0));
        due("appoint whom it has", 0, x -> x.appoint(0, 0));
        due("appoint whom it has", 1, x -> x.appoint(2, 1));
        Due.by("run: n YEARS (0 .. 40), what 0, 10 .., 20 .. BAD");
        for (int n : new int[] {LOW, -1, 41, 42, HIGH}) {
            due("run " + n, -2, x -> x.run(n, 0));
        }
        for (int what : new int[] {LOW, LOW + 10, LOW + 20, -10, -1, 1, 2, 9, 13, 15, 16, 19, 22, 25, 26, 30, 99, HIGH}) {
            due("run what " + what, -2, x -> x.run(0, what));
            due("run what " + what, -2, x -> x.run(40, what));
        }
    }

    private void bests() {
        Due.by("best, would, swap, spare: what 0, 1. BAD");
        for (int what : NOT_TWO) {
            due("best " + what, -2, x -> x.best(what));
            due("would " + what, -2, x -> x.would(what));
            due("swap " + what, -2, x -> x.swap(what));
            due("spare " + what, -2, x -> x.spare(what));
        }
        Due.by("settled: what 0, 1, 2. BAD");
        for (int what : new int[] {LOW, -1, 3, HIGH}) {
            due("settled " + what, -2, x -> x.settled(what));
        }
        Due.by("ranks: -5: no such CHILD");
        for (int c : new int[] {LOW, -1, 3, 6, HIGH}) {
            due("ranks " + c, -5, x -> x.ranks(c));
        }
    }

    /** SHEET 0 is missing, 1 of four tells of more than there are, 3 of so many as told(3). */
    private void told() {
        Due.by("judge, kinds, marks, when, laws: BAD: SHEET; -11; BAD: it tells of more than there are; -5: no such UNCLE; -7");
        for (int s : new int[] {LOW, -1, 4, HIGH}) {
            toldOf(s, 0, -2);
            toldOf(s, 9, -2);
            due("whose " + s, -2, x -> x.whose(s));
            due("film " + s, -2, x -> x.film(s, 0));
            due("film " + s + " ahead of no such", -2, x -> x.film(s, 9));
        }
        toldOf(0, 0, -11);
        toldOf(0, 9, -11);
        due("whose", -11, x -> x.whose(0));
        toldOf(1, 0, -2);
        toldOf(1, 9, -2);
        due("whose", -2, x -> x.whose(1));
        for (int u : new int[] {LOW, -1, 2, 6, HIGH}) {
            due("film " + u, -5, x -> x.film(0, u));
        }
        RefusalsTest three = new RefusalsTest(() -> {
            UnclesByWard x = Wards.some();
            x.sheet(3, 2, 3);
            return x;
        });
        for (int u : new int[] {LOW, -1, 2, 6, HIGH}) {
            three.toldOf(3, u, -5);
        }
        for (int what : NOT_TWO) {
            three.due("kinds " + what, -7, x -> x.kinds(3, 0, what));
            three.due("when " + what, -7, x -> x.when(3, 0, what));
        }
        for (int k : new int[] {LOW, -1, 4, 5, HIGH}) {
            three.due("marks " + k, -7, x -> x.marks(3, 0, k));
        }
    }

    /** Ahead of a sort, a place that is none, too. */
    private void toldOf(int s, int u, long want) {
        String name = " of " + s + " " + u;
        due("judge" + name, want, x -> x.judge(s, u));
        due("laws" + name, want, x -> x.laws(s, u));
        for (int what : new int[] {0, -1, 9}) {
            due("kinds" + name, want, x -> x.kinds(s, u, what));
            due("marks" + name, want, x -> x.marks(s, u, what));
            due("when" + name, want, x -> x.when(s, u, what));
        }
    }

    private void lists() {
        Due.by("LISTS by a SEED (0 .. 99999). BAD");
        for (int seed : new int[] {LOW, -1, 100000, HIGH}) {
            due("drawn " + seed, -2, x -> x.drawn(seed, 0));
            due("odds " + seed, NO, x -> x.odds(seed, 1, 0, 0));
        }
        Due.by("odds: of so many (1 .. 60) seeds, that is least (-9999 .. 9999) or more: part 0, 1. NO: none such");
        for (int seeds : new int[] {LOW, -1, 0, 61, HIGH}) {
            due("odds of " + seeds, NO, x -> x.odds(0, seeds, 0, 0));
        }
        for (int least : new int[] {LOW, -10000, 10000, HIGH}) {
            due("odds least " + least, NO, x -> x.odds(0, 1, least, 1));
        }
        for (int what : NOT_TWO) {
            due("drawn what " + what, -2, x -> x.drawn(0, what));
            due("odds part " + what, NO, x -> x.odds(0, 1, 0, what));
        }
    }

    private void sheets() {
        Due.by("sheet: BAD: SHEET, sort, n above 40; -14");
        for (int s : new int[] {LOW, -1, 4, HIGH}) {
            due("sheet " + s, -2, x -> x.sheet(s, 0, 1));
            due("sheet " + s + " ahead of n", -2, x -> x.sheet(s, 0, -1));
            due("sheet " + s + " missing", -2, x -> x.sheet(s, -1, 0));
            due("cell " + s, -2, x -> x.cell(s, 0, 1));
            due("cell " + s + " ahead of place", -2, x -> x.cell(s, -1, 1));
            due("copy from " + s, -2, x -> x.copy(s, 0, 1, 0, 1));
            due("copy to " + s, -2, x -> x.copy(1, 0, s, 0, 1));
            due("copy to " + s + " ahead of missing", -2, x -> x.copy(0, -1, s, -1, -1));
            due("copy from " + s + " ahead of missing", -2, x -> x.copy(s, -1, 0, -1, -1));
        }
        for (int sort : new int[] {LOW, -2, 3, HIGH}) {
            due("sort " + sort, -2, x -> x.sheet(1, sort, 1));
            due("sort " + sort + " ahead of n", -2, x -> x.sheet(1, sort, -1));
        }
        for (int sort = 0; sort < 3; sort++) {
            int t = sort;
            due("n 41", -2, x -> x.sheet(2, t, 41));
            due("n high", -2, x -> x.sheet(2, t, HIGH));
            due("n -1", -14, x -> x.sheet(2, t, -1));
            due("n low", -14, x -> x.sheet(2, t, LOW));
        }
        due("missing already, n does not matter", 1, x -> x.sheet(0, -1, LOW));
        due("missing already, n does not matter", 1, x -> x.sheet(0, -1, 41));
        Due.by("cell: BAD: SHEET; -11; -12");
        due("cell of what is missing", -11, x -> x.cell(0, 0, 1));
        due("cell of what is missing, ahead of place", -11, x -> x.cell(0, -1, 1));
        for (int i : new int[] {LOW, -1, 4, 5, 39, 40, HIGH}) {
            due("cell " + i, -12, x -> x.cell(1, i, 1));
            due("cell " + i, -12, x -> x.cell(3, i, 1));
        }
        copies();
    }

    /** SHEET 1 is of four bytes, 2 of six shorts, 3 of four ints. */
    private void copies() {
        Due.by("copy: BAD: SHEETS; -11; -13: unlike sorts; -12 (n below 0, too)");
        due("from what is missing", -11, x -> x.copy(0, 0, 1, 0, 1));
        due("to what is missing", -11, x -> x.copy(1, 0, 0, 0, 1));
        due("what is missing to itself", -11, x -> x.copy(0, 0, 0, 0, 0));
        due("missing ahead of place", -11, x -> x.copy(1, -1, 0, -1, -1));
        for (int s = 1; s < 4; s++) {
            int from = s;
            int to = s % 3 + 1;
            due("unlike", -13, x -> x.copy(from, 0, to, 0, 1));
            due("unlike, of none", -13, x -> x.copy(from, 0, to, 0, 0));
            due("unlike ahead of place", -13, x -> x.copy(from, -1, to, 99, -1));
        }
        int[][] outside = {{-1, 0, 1}, {0, -1, 1}, {LOW, 0, 1}, {0, LOW, 1}, {0, 0, -1}, {0, 0, LOW}, {0, 0, 5}, {1, 0, 4}, {0, 1, 4},
            {4, 0, 1}, {0, 4, 1}, {5, 0, 0}, {0, 5, 0}, {HIGH, 0, 1}, {0, HIGH, 1}, {0, 0, HIGH}, {1, 1, HIGH}, {4, 4, LOW},
            {HIGH, HIGH, HIGH}, {LOW, LOW, LOW}, {HIGH, 0, 0}, {-1, 0, 0}, {0, -1, 0}, {3, 3, 2}, {2, 3, 2}, {3, 2, 2}};
        for (int[] a : outside) {
            due("copy " + a[0] + " " + a[1] + " " + a[2], -12, x -> x.copy(1, a[0], 1, a[1], a[2]));
            due("copy " + a[0] + " " + a[1] + " " + a[2], -12, x -> x.copy(3, a[0], 3, a[1], a[2]));
        }
        due("none of them", 0, x -> x.copy(1, 4, 1, 4, 0));
        due("none of them", 0, x -> x.copy(1, 0, 1, 2, 0));
        due("all to themselves", 4, x -> x.copy(1, 0, 1, 0, 4));
    }

    private void unclesByOne() {
        Due.by("unclesBy: BAD: SHEET, sort, n; -11; -13; -12: what stood ahead came");
        for (int s : new int[] {LOW, -1, 4, HIGH}) {
            due("by " + s, -2, x -> x.unclesBy(s, 0, 0, 1));
        }
        for (int sort : new int[] {LOW, -1, 3, HIGH}) {
            due("of sort " + sort, -2, x -> x.unclesBy(1, sort, 0, 1));
            due("of sort " + sort + " ahead of missing", -2, x -> x.unclesBy(0, sort, 0, 1));
        }
        for (int n : new int[] {LOW, -1, 7, HIGH}) {
            due("n " + n, -2, x -> x.unclesBy(1, 0, 0, n));
            due("n " + n + " ahead of missing", -2, x -> x.unclesBy(0, 0, 0, n));
            due("n " + n + " ahead of another sort", -2, x -> x.unclesBy(1, 1, -1, n));
        }
        for (int sort = 0; sort < 3; sort++) {
            int t = sort;
            due("missing", -11, x -> x.unclesBy(0, t, 0, 1));
            due("missing ahead of place", -11, x -> x.unclesBy(0, t, -1, 1));
            due("another sort", -13, x -> x.unclesBy(t + 1, (t + 1) % 3, 0, 1));
            due("another sort, of none", -13, x -> x.unclesBy(t + 1, (t + 2) % 3, 0, 0));
            due("another sort ahead of place", -13, x -> x.unclesBy(t + 1, (t + 1) % 3, -1, 6));
            due("none", 0, x -> x.unclesBy(t + 1, t, 0, 0));
        }
        for (int from : new int[] {LOW, LOW + 1, -2, -1, 3, 4, 5, 39, HIGH - 11, HIGH - 1, HIGH}) {
            for (int n = 1; n < 7; n++) {
                int m = n;
                due("from " + from + " " + n, -12, x -> x.unclesBy(1, 0, from, m));
                due("from " + from + " " + n, -12, x -> x.unclesBy(3, 2, from, m));
            }
        }
        due("one that is left out", 0, x -> x.unclesBy(2, 1, 2, 1));
    }

    private void takenOnes() {
        Due.by("taken: BAD: kind; -12: i; -11: no such UNCLE; -13");
        for (int kind : new int[] {LOW, -1, 7, 10, HIGH}) {
            due("kind " + kind, -2, x -> x.taken(0, kind));
            due("kind " + kind + " ahead of place", -2, x -> x.taken(12, kind));
        }
        for (int kind = 0; kind < 7; kind++) {
            int k = kind;
            for (int i : new int[] {LOW, -1, 12, 13, HIGH}) {
                due("place " + i, -12, x -> x.taken(i, k));
            }
            for (int i : new int[] {2, 3, 4, 5, 8, 9, 10, 11}) {
                due("nobody at " + i, -11, x -> x.taken(i, k));
            }
            // 0 is JOLLY, 1 an ORPHAN.
            due("the first", k < 2 ? 0 : -13, x -> x.taken(0, k));
            due("the second", k == 0 || k == 2 || k == 4 ? 1 : -13, x -> x.taken(1, k));
            due("whether the first has fewer", k == 6 ? 0 : -13, x -> x.taken(6, k));
            due("whether the second has fewer", k == 6 ? 0 : -13, x -> x.taken(7, k));
        }
    }

    private void asked() {
        Due.by("What is asked changes nothing");
        for (int i = 0; i < 7; i++) {
            int a = i;
            asks("count", x -> x.count(a));
            asks("told", x -> x.told(1, a));
            asks("asks", x -> x.asks(a % 3, a % 2, 10 * (a % 3) + a % 4));
            asks("suit", x -> x.suit(a % 3, a % 2, a / 4));
            asks("run", x -> x.run(40, new int[] {0, 10, 11, 12, 20, 21, 0}[a]));
            asks("run", x -> x.run(a, 0));
            asks("best", x -> x.best(a % 2));
            asks("settled", x -> x.settled(a % 3));
            asks("would", x -> x.would(a % 2));
            asks("swap", x -> x.swap(a % 2));
            asks("ranks", x -> x.ranks(a % 3));
            asks("spare", x -> x.spare(a % 2));
            asks("drawn", x -> x.drawn(99999 - a, a % 2));
            asks("odds", x -> x.odds(99999 - a, 60, a * 9, a % 2));
            asks("taken", x -> x.taken(a, a % 6));
        }
        asks("all", UnclesByWard::all);
        RefusalsTest told = new RefusalsTest(() -> {
            UnclesByWard x = Wards.some();
            x.film(3, 1);
            x.copy(3, 0, 3, 0, 3);
            return x;
        });
        for (int u = 0; u < 2; u++) {
            int v = u;
            told.asks("judge", x -> x.judge(3, v));
            told.asks("whose", x -> x.whose(3));
            told.asks("laws", x -> x.laws(3, v));
            for (int k = 0; k < 4; k++) {
                int w = k;
                told.asks("kinds", x -> x.kinds(3, v, w % 2));
                told.asks("marks", x -> x.marks(3, v, w));
                told.asks("when", x -> x.when(3, v, w % 2));
            }
        }
    }

    private void full() {
        Due.by("FULL");
        due("child", -4, x -> x.child(0));
        due("child 9999", -4, x -> x.child(9999));
        due("child, bad ahead of full", -2, x -> x.child(10000));
        due("uncle", -4, x -> x.uncle(0, 0));
        due("uncle 59", -4, x -> x.uncle(59, 9999));
        due("uncle, bad ahead of full", -2, x -> x.uncle(60, 0));
        due("uncle, bad ahead of full", -2, x -> x.uncle(0, -1));
        for (int n = 1; n < 6; n++) {
            int m = n;
            due("feed " + n, -4, x -> x.feed(m, 1, 1, 1, 1, 1));
        }
        due("feed, bad ahead of full", -2, x -> x.feed(1, 1, 1, 1, 1, 256));
        due("text, and the tape stays", -4, UnclesByWard::text);
        due("force 6", -2, x -> x.force(6));
        due("force the law", 5, x -> x.force(5));
        Due.by("year: STATE: YEAR is 99");
        due("year", -3, UnclesByWard::year);
        Due.by("appoint: STATE");
        for (int u = 0; u < 6; u++) {
            int v = u;
            boolean isRoom = u == 3;
            due("whom it has", u, x -> x.appoint(v, v));
            if (!isRoom) {
                due("no room of " + u, -3, x -> x.appoint((v + 1) % 6, v));
            }
        }
        Due.by("unclesBy: others are left out");
        due("uncles by a sheet", 0, x -> x.unclesBy(0, 0, 0, 6));
        due("uncles by the last two", 0, x -> x.unclesBy(2, 2, 38, 1));
        due("uncles by what is outside", -12, x -> x.unclesBy(2, 2, 38, 2));
    }

    private void empty() {
        Due.by("a new object: No CHILDREN, no UNCLES");
        due("back", -3, UnclesByWard::back);
        due("text, of nothing", -100, UnclesByWard::text);
        for (int i = 0; i < 6; i++) {
            int a = i;
            due("appoint", -5, x -> x.appoint(a, -1));
            due("appoint", -5, x -> x.appoint(a, a));
            due("put", -5, x -> x.put(a, 0, 0));
            due("put", -5, x -> x.put(a, 1, 0));
            due("film", -5, x -> x.film(0, a));
            due("taken", -11, x -> x.taken(a, a));
            due("taken", -11, x -> x.taken(a + 6, 6));
            due("force", a == 0 ? 0 : -2, x -> x.force(a));
        }
    }

    /** SHEET 2 is of six shorts: an UNCLE, one that is none, an UNCLE. */
    private static void unclesAheadOfAPlaceOutside() {
        Due.by("unclesBy: n of them (0 .. 6): how many came (others are left out); -12: what stood ahead came");
        int[] answers = {0, 1, 1, 2, -12, -12, -12};
        int[] come = {0, 1, 1, 2, 2, 2, 2};
        for (int n = 0; n < 7; n++) {
            UnclesByWard x = Wards.some();
            Due.is("by the first " + n, x.unclesBy(2, 1, 0, n), answers[n]);
            Due.is("so many came", x.count(1), 2 + come[n]);
        }
        for (int from = 0; from < 6; from++) {
            for (int n = 1; n < 7; n++) {
                UnclesByWard x = Wards.of(Wards.needs());
                Wards.sheet(x, 0, 2, 0, 1, 2, 3, 4, 5);
                int whole = Math.min(n, (6 - from) / 2);
                Due.is("from " + from + " " + n, x.unclesBy(0, 2, from, n), whole == n ? n : -12);
                Due.is("so many came", x.count(1), whole);
                Due.is("the first", x.told(0, 2), whole == 0 ? -5 : from + 1);
                Due.is("the first", x.told(0, 4), whole == 0 ? -5 : from);
            }
        }
        for (int has = 0; has < 7; has++) {
            UnclesByWard x = new UnclesByWard();
            for (int u = 0; u < has; u++) {
                x.uncle(0, 0);
            }
            x.sheet(0, 0, 12);
            Due.is("as many as there is room", x.unclesBy(0, 0, 0, 6), 6 - has);
            Due.is("six", x.count(1), 6);
            Due.is("then outside", x.unclesBy(0, 0, 1, 6), -12);
        }
    }
}
