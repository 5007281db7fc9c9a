import java.util.Random;

/** Long runs of calls, each answered by the program and by the plain ward beside it. */
public final class ModelTest {
    private static final int RUNS = 1500, CALLS = 512, MOST_AT_ONCE = 40;
    private static final String[] BITS = {"mark", "need", "which", "year", "hired", "more", "0", "1", "7", "99", "9999", "00012",
        "(", ")", "-", "+", "*", "<", "=", "and", "or", "not", ";", " ", "\n", "suits", "x", "?"};
    private static final int[] ODD = {-1, -2, 4, 5, 6, 7, 9, 10, 11, 12, 20, 40, 41, 59, 60, 61, 99, 100, 160, 255, 256, 9999, 10000,
        99999, 100000, Integer.MIN_VALUE, Integer.MIN_VALUE + 1, Integer.MAX_VALUE, Integer.MAX_VALUE - 1, -9999, -10000};

    private final Random random;
    private final UnclesByWard x = new UnclesByWard();
    private final PlainWard plain = new PlainWard();
    private final boolean isWild;
    private String call = "";
    private int made;

    private ModelTest(int seed) {
        random = new Random(seed);
        isWild = seed % 5 == 0;
    }

    public static void main(String[] args) {
        int[] asked = new int[40];
        for (int run = 0; run < RUNS && !Due.isAnyWrong(); run++) {
            new ModelTest(run).go(run, asked);
        }
        for (int which = 0; which < 36; which++) {
            Due.holds("call " + which + " is asked", asked[which] > 0);
        }
        Due.end();
    }

    private void go(int run, int[] asked) {
        if (!isWild) {
            begin(run);
        }
        for (int i = 0; made < CALLS - MOST_AT_ONCE && !Due.isAnyWrong(); i++) {
            int which = random.nextInt(40);
            // The plain ward looks at each ROW by itself: these are asked less often.
            if ((which == 14 || which == 19) && random.nextInt(6) > 0) {
                which = 12;
            }
            asked[which]++;
            one(run, i, which);
        }
    }

    private void begin(int run) {
        for (int c = random.nextInt(7); c > 0; c--) {
            int needs = random.nextInt(10000);
            same(run, -1, x.child(needs), plain.child(needs));
        }
        for (int u = random.nextInt(7); u > 0; u--) {
            int kindMore = random.nextInt(60);
            int marks = random.nextInt(10000);
            same(run, -1, x.uncle(kindMore, marks), plain.uncle(kindMore, marks));
        }
        for (int t = random.nextInt(5); t > 0; t--) {
            tell(run, -1, wholeText());
            same(run, -1, x.text(), plain.text());
        }
    }

    private void tell(int run, int i, String text) {
        call = "feed " + text;
        for (int at = 0; at < text.length(); at += 5) {
            int n = Math.min(5, text.length() - at);
            int[] b = new int[5];
            for (int k = 0; k < n; k++) {
                b[k] = text.charAt(at + k);
            }
            same(run, i, x.feed(n, b[0], b[1], b[2], b[3], b[4]), plain.feed(n, b[0], b[1], b[2], b[3], b[4]));
        }
    }

    private String wholeText() {
        return "suits " + e(3) + ";likes " + e(3) + (random.nextInt(3) == 0 ? "\n" : "") + ";tires " + e(2) + ";";
    }

    private String e(int depth) {
        int sort = random.nextInt(depth > 0 ? 14 : 4);
        switch (sort) {
            case 0: return BITS[random.nextInt(6)];
            case 1: return BITS[random.nextInt(6)];
            case 2: return "" + random.nextInt(10);
            case 3: return "" + random.nextInt(random.nextInt(4) == 0 ? 10000 : 100);
            case 4: return "(" + e(depth - 1) + ")";
            case 5: return "-" + e(depth - 1);
            case 6: return "not " + e(depth - 1);
            case 7: return e(depth - 1) + " and " + e(depth - 1);
            case 8: return e(depth - 1) + " or " + e(depth - 1);
            case 9: return e(depth - 1) + "<" + e(depth - 1);
            case 10: return e(depth - 1) + "=" + e(depth - 1);
            case 11: return e(depth - 1) + "+" + e(depth - 1);
            case 12: return e(depth - 1) + "-" + e(depth - 1);
            default: return e(depth - 1) + "*" + e(depth - 1);
        }
    }

    private String someText() {
        StringBuilder text = new StringBuilder(wholeText());
        for (int faults = random.nextInt(4) - 1; faults > 0; faults--) {
            int at = random.nextInt(text.length() + 1);
            if (random.nextBoolean()) {
                text.insert(at, BITS[random.nextInt(BITS.length)]);
            } else {
                text.delete(at, Math.min(text.length(), at + random.nextInt(4)));
            }
        }
        return text.toString();
    }

    private int oddOr(int usual) {
        return random.nextInt(isWild ? 3 : 25) == 0 ? ODD[random.nextInt(ODD.length)] : usual;
    }

    private int upTo(int n) {
        return oddOr(random.nextInt(n));
    }

    private void same(int run, int i, long got, long want) {
        made++;
        Due.is("run " + run + " call " + i + ": " + call, got, want);
    }

    private void one(int run, int i, int which) {
        int a = upTo(6);
        int b = upTo(6);
        int c = upTo(4);
        int d = upTo(3);
        int two = upTo(2);
        call = which + ": " + a + " " + b + " " + c + " " + d + " " + two;
        if (which < 12) {
            askFirst(run, i, which, a, b, two);
        } else if (which < 26) {
            askThen(run, i, which, a, c, two);
        } else {
            askHost(run, i, which, c, d);
        }
    }

    private void askFirst(int run, int i, int which, int a, int b, int two) {
        int v = oddOr(random.nextInt(10000));
        call = call + " " + v;
        switch (which) {
            case 0: same(run, i, x.count(a), plain.count(a)); break;
            case 1: same(run, i, x.child(v), plain.child(v)); break;
            case 2: same(run, i, x.feed(a, b, 97, v, 0, two), plain.feed(a, b, 97, v, 0, two)); break;
            case 3: readText(run, i); break;
            case 4: same(run, i, x.force(a), plain.force(a)); break;
            case 5: askAsks(run, i, two, a); break;
            case 6: same(run, i, x.uncle(v % 60, v), plain.uncle(v % 60, v)); break;
            case 7: askPut(run, i, a, v); break;
            case 8: same(run, i, x.told(a, b), plain.told(a, b)); break;
            case 9: same(run, i, x.suit(a, b, two), plain.suit(a, b, two)); break;
            case 10: same(run, i, x.all(), plain.all()); break;
            default: same(run, i, x.appoint(a, b), plain.appoint(a, b)); break;
        }
    }

    private void readText(int run, int i) {
        if (random.nextInt(3) > 0) {
            tell(run, i, someText());
        }
        call = "text behind " + call;
        same(run, i, x.text(), plain.text());
    }

    private void askAsks(int run, int i, int two, int a) {
        int childMark = upTo(60);
        int part = random.nextInt(4) == 0 ? 2 : two;
        call = "asks " + part + " " + a + " " + childMark;
        same(run, i, x.asks(part, a, childMark), plain.asks(part, a, childMark));
    }

    private void askPut(int run, int i, int a, int v) {
        int what = upTo(3);
        int to = what == 2 ? oddOr(v % 100) : v;
        call = "put " + a + " " + what + " " + to;
        same(run, i, x.put(a, what, to), plain.put(a, what, to));
    }

    private void askThen(int run, int i, int which, int a, int s, int two) {
        int u = random.nextInt(4) == 0 ? a : random.nextInt(2);
        call = call + " " + u;
        switch (which) {
            case 12: same(run, i, x.year(), plain.year()); break;
            case 13: askRun(run, i); break;
            case 14: same(run, i, x.best(two), plain.best(two)); break;
            case 15: same(run, i, x.settled(two * 2 % 3), plain.settled(two * 2 % 3));
                same(run, i, x.settled(two), plain.settled(two)); break;
            case 16: same(run, i, x.would(two), plain.would(two)); break;
            case 17: same(run, i, x.swap(two), plain.swap(two)); break;
            case 18: same(run, i, x.ranks(a), plain.ranks(a)); break;
            case 19: same(run, i, x.spare(two), plain.spare(two)); break;
            case 20: askTold(run, i, s, u); break;
            case 21: askFilmed(run, i, s, u); break;
            case 22: same(run, i, x.whose(s), plain.whose(s)); break;
            case 23: same(run, i, x.film(s, u), plain.film(s, u)); break;
            case 24: askDrawn(run, i, two); break;
            default: askImage(run, i, two); break;
        }
    }

    private void askRun(int run, int i) {
        int n = upTo(41);
        int[] whats = {0, 10 + random.nextInt(6), 20 + random.nextInt(6), oddOr(random.nextInt(30))};
        int what = whats[random.nextInt(4)];
        call = "run " + n + " " + what;
        same(run, i, x.run(n, what), plain.run(n, what));
    }

    private void askTold(int run, int i, int s, int u) {
        int k = upTo(4);
        int two = upTo(2);
        call = "judge, kinds, marks, when, laws " + s + " " + u + " " + k + " " + two;
        same(run, i, x.judge(s, u), plain.judge(s, u));
        same(run, i, x.kinds(s, u, two), plain.kinds(s, u, two));
        same(run, i, x.marks(s, u, k), plain.marks(s, u, k));
        same(run, i, x.when(s, u, two), plain.when(s, u, two));
        same(run, i, x.laws(s, u), plain.laws(s, u));
    }

    /** Of a sheet that tells true, or nearly so, more are as told. */
    private void askFilmed(int run, int i, int s, int u) {
        same(run, i, x.film(s, u), plain.film(s, u));
        if (random.nextInt(3) == 0) {
            same(run, i, x.cell(s, 0, 0), plain.cell(s, 0, 0));
        }
        if (random.nextInt(3) == 0) {
            int n = random.nextInt(7);
            same(run, i, x.sheet(3, 2, n), plain.sheet(3, 2, n));
            same(run, i, x.copy(s, 0, 3, 0, n), plain.copy(s, 0, 3, 0, n));
            askTold(run, i, 3, u);
        }
        askTold(run, i, s, u);
    }

    private void askDrawn(int run, int i, int two) {
        int seed = oddOr(random.nextInt(100000));
        int seeds = oddOr(1 + random.nextInt(60));
        int least = oddOr(random.nextInt(400) - 50);
        call = "drawn, odds " + seed + " " + seeds + " " + least + " " + two;
        same(run, i, x.drawn(seed, two), plain.drawn(seed, two));
        same(run, i, x.odds(seed, seeds, least, two), plain.odds(seed, seeds, least, two));
    }

    private void askImage(int run, int i, int two) {
        if (two == 0) {
            same(run, i, x.image(), plain.image());
        } else if (two == 1) {
            same(run, i, x.back(), plain.back());
        }
    }

    private void askHost(int run, int i, int which, int s, int sort) {
        int n = upTo(8);
        int from = upTo(12);
        int to = upTo(12);
        int other = upTo(4);
        int numbers = oddOr(12 + random.nextInt(29));
        int v = random.nextInt(3) == 0 ? random.nextInt() : random.nextInt(9999);
        call = call + " " + n + " " + from + " " + to + " " + other + " " + numbers + " " + v;
        switch (which) {
            case 26: same(run, i, x.sheet(s, sort, numbers), plain.sheet(s, sort, numbers)); break;
            case 27: same(run, i, x.cell(s, from, v), plain.cell(s, from, v)); break;
            case 28: same(run, i, x.cell(s, from, v % 60), plain.cell(s, from, v % 60)); break;
            case 29: same(run, i, x.copy(s, from, other, to, n), plain.copy(s, from, other, to, n)); break;
            case 30: same(run, i, x.copy(s, from, s, to, n), plain.copy(s, from, s, to, n)); break;
            case 31: same(run, i, x.unclesBy(s, sort, from, n), plain.unclesBy(s, sort, from, n)); break;
            case 32: same(run, i, x.taken(from, n), plain.taken(from, n)); break;
            case 33: same(run, i, x.taken(from, other), plain.taken(from, other)); break;
            case 34: same(run, i, x.judge(s, to), plain.judge(s, to)); break;
            case 35: same(run, i, x.sheet(s, -1, v), plain.sheet(s, -1, v)); break;
            default: askEachPlace(run, i); break;
        }
    }

    private void askEachPlace(int run, int i) {
        int c = random.nextInt(6);
        for (int what = 0; what < 7; what++) {
            same(run, i, x.told(c, what), plain.told(c, what));
            same(run, i, x.count(what), plain.count(what));
        }
        for (int u = 0; u < 6; u++) {
            same(run, i, x.suit(c, u, 0), plain.suit(c, u, 0));
            same(run, i, x.suit(c, u, 1), plain.suit(c, u, 1));
        }
    }
}
