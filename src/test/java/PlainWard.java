import java.lang.reflect.Array;
import java.util.ArrayList;
import java.util.Arrays;
import java.util.List;

/** The document once more, as plainly as can be: all ROWS looked at one by one, the host's refusals by the host itself. */
final class PlainWard {
    private static final class Child {
        int[] needs;
        int uncle = -1;
    }

    private static final class State {
        final List<Child> children = new ArrayList<>();
        final List<PlainUncle> uncles = new ArrayList<>();
        int year;
        int law;

        State copied() {
            State s = new State();
            for (Child c : children) {
                Child d = new Child();
                d.needs = c.needs.clone();
                d.uncle = c.uncle;
                s.children.add(d);
            }
            for (PlainUncle u : uncles) {
                s.uncles.add(PlainUncle.of(u.kind(), u.more, u.marks));
            }
            s.year = year;
            s.law = law;
            return s;
        }
    }

    private final List<PlainText> texts = new ArrayList<>();
    private final StringBuilder tape = new StringBuilder();
    private final Object[] sheets = new Object[4];
    private State now = new State();
    private State kept;

    PlainWard() {
        texts.add(new PlainText("suits mark * need ; likes 9 - need ; tires year < 3 ; "));
    }

    private static int[] split(int v) {
        return new int[] {v / 1000, v / 100 % 10, v / 10 % 10, v % 10};
    }

    private static int joined(int[] d) {
        return d[0] * 1000 + d[1] * 100 + d[2] * 10 + d[3];
    }

    private boolean isChild(int c) {
        return 0 <= c && c < now.children.size();
    }

    private boolean isUncle(int u) {
        return 0 <= u && u < now.uncles.size();
    }

    private static boolean isIn(int v, int least, int most) {
        return least <= v && v <= most;
    }

    private int hired(State s, int u) {
        return (int) s.children.stream().filter(c -> c.uncle == u).count();
    }

    private int says(State s, int part, int u, int place, int need) {
        PlainUncle uncle = s.uncles.get(u);
        int[] names = {uncle.marks[place], need, place, s.year, hired(s, u), uncle.more};
        return texts.get(s.law).says(part, names);
    }

    private int suited(State s, int c, int u) {
        int sum = 0;
        for (int place = 0; place < 4; place++) {
            int need = s.children.get(c).needs[place];
            sum += s.uncles.get(u).suits(says(s, 0, u, place, need), place, need);
        }
        return sum;
    }

    private int liked(State s, int c, int u) {
        int sum = 0;
        for (int place = 0; place < 4; place++) {
            sum += says(s, 1, u, place, s.children.get(c).needs[place]);
        }
        return s.uncles.get(u).likes(sum, Arrays.stream(s.children.get(c).needs).sum());
    }

    private int suitedBy(State s, int[] row) {
        int sum = 0;
        for (int c = 0; c < row.length; c++) {
            sum += row[c] < 0 ? 0 : suited(s, c, row[c]);
        }
        return sum;
    }

    private int[] rowNow() {
        return now.children.stream().mapToInt(c -> c.uncle).toArray();
    }

    private static int digits(int[] row) {
        int digits = 0;
        for (int u : row) {
            digits = digits * 10 + u + 1;
        }
        return digits;
    }

    private void passYear(State s) {
        for (int c = 0; c < s.children.size(); c++) {
            Child child = s.children.get(c);
            if (child.uncle < 0) {
                continue;
            }
            if (suited(s, c, child.uncle) > 0) {
                int most = Arrays.stream(child.needs).max().getAsInt();
                for (int place = 0; place < 4; place++) {
                    if (child.needs[place] == most) {
                        child.needs[place] = most == 0 ? 0 : most - 1;
                        break;
                    }
                }
            }
            int[] marks = s.uncles.get(child.uncle).marks;
            for (int place = 0; place < 4; place++) {
                int less = marks[place] - says(s, 2, child.uncle, place, 0);
                marks[place] = less < 0 ? 0 : less;
            }
        }
        s.year++;
    }

    private int allNeeds(State s) {
        return s.children.stream().mapToInt(c -> Arrays.stream(c.needs).sum()).sum();
    }

    int count(int what) {
        switch (what) {
            case 0: return now.children.size();
            case 1: return now.uncles.size();
            case 2: return now.year;
            case 3: return (int) now.children.stream().filter(c -> c.uncle >= 0).count();
            case 4: return texts.size();
            case 5: return now.law;
            case 6: return tape.length();
            default: return -2;
        }
    }

    int child(int needs) {
        if (!isIn(needs, 0, 9999)) {
            return -2;
        }
        if (now.children.size() == 6) {
            return -4;
        }
        Child c = new Child();
        c.needs = split(needs);
        now.children.add(c);
        return now.children.size() - 1;
    }

    int feed(int n, int a, int b, int c, int d, int e) {
        int[] bytes = {a, b, c, d, e};
        if (!isIn(n, 1, 5) || Arrays.stream(bytes).anyMatch(v -> !isIn(v, 0, 255))) {
            return -2;
        }
        if (tape.length() + n > 160) {
            return -4;
        }
        for (int i = 0; i < n; i++) {
            tape.append((char) bytes[i]);
        }
        return tape.length();
    }

    int text() {
        if (texts.size() == 6) {
            return -4;
        }
        PlainText text = new PlainText(tape.toString());
        tape.setLength(0);
        if (text.fault >= 0) {
            return -100 - text.fault;
        }
        texts.add(text);
        return texts.size() - 1;
    }

    int force(int t) {
        if (!isIn(t, 0, texts.size() - 1)) {
            return -2;
        }
        int was = now.law;
        now.law = t;
        return was;
    }

    int asks(int part, int u, int childMark) {
        if (!isIn(part, 0, 2) || !isUncle(u) || childMark < 0 || !isChild(childMark / 10) || childMark % 10 > 3) {
            return -1000;
        }
        return says(now, part, u, childMark % 10, now.children.get(childMark / 10).needs[childMark % 10]);
    }

    int uncle(int kindMore, int marks) {
        if (!isIn(kindMore, 0, 59) || !isIn(marks, 0, 9999)) {
            return -2;
        }
        if (now.uncles.size() == 6) {
            return -4;
        }
        now.uncles.add(PlainUncle.of(kindMore / 10, kindMore % 10, split(marks)));
        return now.uncles.size() - 1;
    }

    int put(int of, int what, int v) {
        int was;
        switch (what) {
            case 0:
                if (!isChild(of)) {
                    return -5;
                }
                was = joined(now.children.get(of).needs);
                if (isIn(v, 0, 9999)) {
                    now.children.get(of).needs = split(v);
                    return was;
                }
                return -7;
            case 1:
                if (!isUncle(of)) {
                    return -5;
                }
                was = joined(now.uncles.get(of).marks);
                if (isIn(v, 0, 9999)) {
                    now.uncles.get(of).marks = split(v);
                    return was;
                }
                return -7;
            case 2:
                was = now.year;
                if (isIn(v, 0, 99)) {
                    now.year = v;
                    return was;
                }
                return -7;
            default:
                return -7;
        }
    }

    int told(int of, int what) {
        if (!isIn(what, 0, 6)) {
            return -7;
        }
        if (what < 2) {
            return !isChild(of) ? -5 : what == 0 ? joined(now.children.get(of).needs) : now.children.get(of).uncle;
        }
        if (!isUncle(of)) {
            return -5;
        }
        PlainUncle u = now.uncles.get(of);
        return new int[] {joined(u.marks), u.kind(), u.more, hired(now, of), u.room(now.year)}[what - 2];
    }

    int suit(int c, int u, int what) {
        if (!isChild(c) || !isUncle(u)) {
            return -1000005;
        }
        return what == 0 ? suited(now, c, u) : what == 1 ? liked(now, c, u) : -1000007;
    }

    int all() {
        return suitedBy(now, rowNow());
    }

    int appoint(int c, int u) {
        if (!isChild(c) || u != -1 && !isUncle(u)) {
            return -5;
        }
        Child child = now.children.get(c);
        int had = child.uncle;
        if (u >= 0 && u != had && hired(now, u) >= now.uncles.get(u).room(now.year)) {
            return -3;
        }
        child.uncle = u;
        return had;
    }

    int year() {
        if (now.year == 99) {
            return -3;
        }
        passYear(now);
        return allNeeds(now);
    }

    int run(int n, int what) {
        if (!isIn(n, 0, 40)) {
            return -2;
        }
        State s = now.copied();
        for (int i = 0; i < n; i++) {
            passYear(s);
        }
        if (what == 0) {
            return allNeeds(s);
        }
        if (isIn(what, 10, 15) && isChild(what - 10)) {
            return joined(s.children.get(what - 10).needs);
        }
        return isIn(what, 20, 25) && isUncle(what - 20) ? joined(s.uncles.get(what - 20).marks) : -2;
    }

    /** The first of the best rows, as digits, and how much; an uncle has no room, if he is told. */
    private int[] bestRow(int without) {
        int children = now.children.size();
        int uncles = now.uncles.size();
        int[][] table = new int[children][uncles];
        int[] room = new int[uncles];
        for (int u = 0; u < uncles; u++) {
            room[u] = u == without ? 0 : now.uncles.get(u).room(now.year);
            for (int c = 0; c < children; c++) {
                table[c][u] = suited(now, c, u);
            }
        }
        int[] row = new int[children];
        Arrays.fill(row, -1);
        int[] best = {0, Integer.MIN_VALUE};
        boolean isMore = true;
        while (isMore) {
            int[] had = new int[uncles];
            int sum = 0;
            boolean isRoom = true;
            for (int c = 0; c < children; c++) {
                if (row[c] >= 0) {
                    sum += table[c][row[c]];
                    isRoom &= ++had[row[c]] <= room[row[c]];
                }
            }
            if (isRoom && sum > best[1]) {
                best = new int[] {digits(row), sum};
            }
            int c = children - 1;
            while (c >= 0 && row[c] == uncles - 1) {
                row[c--] = -1;
            }
            isMore = c >= 0;
            if (isMore) {
                row[c]++;
            }
        }
        return best;
    }

    int best(int what) {
        return isIn(what, 0, 1) ? bestRow(-1)[what] : -2;
    }

    int settled(int what) {
        if (!isIn(what, 0, 2)) {
            return -2;
        }
        int[] row = new int[now.children.size()];
        Arrays.fill(row, -1);
        boolean[][] asked = new boolean[6][6];
        // The last child asks first here: the order doesn't matter.
        for (int c = row.length - 1; c >= 0; c--) {
            int next = -1;
            for (int u = 0; u < now.uncles.size() && row[c] < 0; u++) {
                if (!asked[c][u] && suited(now, c, u) > 0 && (next < 0 || suited(now, c, u) > suited(now, c, next))) {
                    next = u;
                }
            }
            if (next < 0) {
                continue;
            }
            asked[c][next] = true;
            row[c] = next;
            List<Integer> keeps = new ArrayList<>();
            for (int d = 0; d < row.length; d++) {
                if (row[d] == next) {
                    keeps.add(d);
                }
            }
            if (keeps.size() > now.uncles.get(next).room(now.year)) {
                int to = next;
                keeps.sort((p, q) -> liked(now, p, to) != liked(now, q, to) ? liked(now, p, to) - liked(now, q, to) : q - p);
                row[keeps.get(0)] = -1;
            }
            c = row.length;
        }
        return what == 0 ? digits(row) : what == 1 ? suitedBy(now, row) : (int) Arrays.stream(row).filter(u -> u >= 0).count();
    }

    int would(int what) {
        if (!isIn(what, 0, 1)) {
            return -2;
        }
        for (int c = 0; c < now.children.size(); c++) {
            for (int u = 0; u < now.uncles.size(); u++) {
                int has = now.children.get(c).uncle;
                int room = now.uncles.get(u).room(now.year);
                boolean likesMore = false;
                for (int d = 0; d < now.children.size(); d++) {
                    likesMore |= now.children.get(d).uncle == u && liked(now, c, u) > liked(now, d, u);
                }
                if (has != u && suited(now, c, u) > (has < 0 ? 0 : suited(now, c, has))
                    && (hired(now, u) < room || room > 0 && likesMore)) {
                    return what == 0 ? c : u;
                }
            }
        }
        return -1;
    }

    int swap(int what) {
        if (!isIn(what, 0, 1)) {
            return -2;
        }
        int pair = -1;
        int most = all();
        for (int a = 0; a < 6; a++) {
            for (int b = a + 1; b < now.children.size(); b++) {
                State was = now;
                now = now.copied();
                int ofA = now.children.get(a).uncle;
                now.children.get(a).uncle = now.children.get(b).uncle;
                now.children.get(b).uncle = ofA;
                if (all() > most) {
                    most = all();
                    pair = 10 * a + b;
                }
                now = was;
            }
        }
        return what == 0 ? pair : most;
    }

    int ranks(int c) {
        if (!isChild(c)) {
            return -5;
        }
        List<Integer> all = new ArrayList<>();
        for (int u = 0; u < now.uncles.size(); u++) {
            all.add(u);
        }
        all.sort((p, q) -> suited(now, c, q) - suited(now, c, p));
        return digits(all.stream().mapToInt(u -> u).toArray());
    }

    int spare(int what) {
        if (!isIn(what, 0, 1)) {
            return -2;
        }
        int spared = -1;
        int most = 0;
        for (int u = 0; u < now.uncles.size(); u++) {
            int best = bestRow(u)[1];
            if (spared < 0 || best > most) {
                spared = u;
                most = best;
            }
        }
        return what == 0 ? spared : most;
    }

    private int firstOtherwise(int s, int u) {
        for (int c = 0; c < Array.getLength(sheets[s]); c++) {
            if (Array.getInt(sheets[s], c) != suited(now, c, u)) {
                return c;
            }
        }
        return -1;
    }

    private int refusal(int s) {
        if (!isIn(s, 0, 3)) {
            return -2;
        }
        return sheets[s] == null ? -11 : Array.getLength(sheets[s]) > now.children.size() ? -2 : 0;
    }

    private int refusal(int s, int u) {
        return refusal(s) != 0 ? refusal(s) : isUncle(u) ? 0 : -5;
    }

    int judge(int s, int u) {
        return refusal(s, u) != 0 ? refusal(s, u) : firstOtherwise(s, u);
    }

    private interface Change {
        void at(State s, int i);
    }

    /** By which of so many changes none is otherwise. */
    private List<Integer> byWhich(int s, int u, int n, Change change) {
        List<Integer> found = new ArrayList<>();
        State was = now;
        for (int i = 0; i < n; i++) {
            now = was.copied();
            change.at(now, i);
            if (firstOtherwise(s, u) == -1) {
                found.add(i);
            }
        }
        now = was;
        return found;
    }

    private static int bits(List<Integer> found) {
        return found.stream().mapToInt(i -> 1 << i).sum();
    }

    int kinds(int s, int u, int sort) {
        if (refusal(s, u) != 0 || !isIn(sort, 0, 1)) {
            return refusal(s, u) != 0 ? refusal(s, u) : -7;
        }
        return bits(byWhich(s, u, sort == 0 ? 6 : 10, (state, i) -> {
            PlainUncle was = state.uncles.get(u);
            state.uncles.set(u, PlainUncle.of(sort == 0 ? i : was.kind(), sort == 0 ? was.more : i, was.marks));
        }));
    }

    int marks(int s, int u, int k) {
        if (refusal(s, u) != 0 || !isIn(k, 0, 3)) {
            return refusal(s, u) != 0 ? refusal(s, u) : -7;
        }
        return bits(byWhich(s, u, 10, (state, i) -> state.uncles.get(u).marks[k] = i));
    }

    int when(int s, int u, int what) {
        if (refusal(s, u) != 0 || !isIn(what, 0, 1)) {
            return refusal(s, u) != 0 ? refusal(s, u) : -7;
        }
        List<Integer> years = byWhich(s, u, 100, (state, i) -> state.year = i);
        return what == 0 ? years.size() : years.isEmpty() ? -1 : years.get(0);
    }

    int whose(int s) {
        if (refusal(s) != 0) {
            return refusal(s);
        }
        int bits = 0;
        for (int u = 0; u < now.uncles.size(); u++) {
            bits += firstOtherwise(s, u) == -1 ? 1 << u : 0;
        }
        return bits;
    }

    int laws(int s, int u) {
        return refusal(s, u) != 0 ? refusal(s, u) : bits(byWhich(s, u, texts.size(), (state, i) -> state.law = i));
    }

    int film(int s, int u) {
        if (!isIn(s, 0, 3) || !isUncle(u)) {
            return isIn(s, 0, 3) ? -5 : -2;
        }
        int[] row = new int[now.children.size()];
        for (int c = 0; c < row.length; c++) {
            row[c] = suited(now, c, u);
        }
        sheets[s] = row;
        return row.length;
    }

    private int[] list(int seed) {
        int[] row = new int[now.children.size()];
        int[] had = new int[6];
        long lot = seed + 1;
        for (int c = 0; c < row.length; c++) {
            lot = lot * 48271 % 2147483647;
            row[c] = -1;
            if (!now.uncles.isEmpty()) {
                int u = (int) (lot % now.uncles.size());
                if (had[u] + 1 <= now.uncles.get(u).room(now.year)) {
                    had[u]++;
                    row[c] = u;
                }
            }
        }
        return row;
    }

    int drawn(int seed, int what) {
        if (!isIn(seed, 0, 99999) || !isIn(what, 0, 1)) {
            return -2;
        }
        return what == 0 ? suitedBy(now, list(seed)) : digits(list(seed));
    }

    long odds(int seed, int seeds, int least, int part) {
        if (!isIn(seed, 0, 99999) || !isIn(seeds, 1, 60) || !isIn(least, -9999, 9999) || !isIn(part, 0, 1)) {
            return -4611686018427387904L;
        }
        int enough = 0;
        for (int i = 0; i < seeds; i++) {
            enough += suitedBy(now, list(seed + i)) >= least ? 1 : 0;
        }
        int below = seeds;
        for (int d = seeds; d > 1; d--) {
            if (enough % d == 0 && below % d == 0) {
                enough /= d;
                below /= d;
            }
        }
        return part == 0 ? enough : below;
    }

    int image() {
        kept = now.copied();
        return now.uncles.size();
    }

    int back() {
        if (kept == null) {
            return -3;
        }
        now = kept.copied();
        return now.uncles.size();
    }

    int sheet(int s, int sort, int n) {
        if (!isIn(s, 0, 3) || !isIn(sort, -1, 2) || sort >= 0 && n > 40) {
            return -2;
        }
        try {
            sheets[s] = sort == -1 ? null : sort == 0 ? new byte[n] : sort == 1 ? new short[n] : new int[n];
            return 1;
        } catch (NegativeArraySizeException refused) {
            return -14;
        }
    }

    int cell(int s, int i, int v) {
        if (!isIn(s, 0, 3)) {
            return -2;
        }
        try {
            if (sheets[s] instanceof byte[]) {
                ((byte[]) sheets[s])[i] = (byte) v;
            } else if (sheets[s] instanceof short[]) {
                ((short[]) sheets[s])[i] = (short) v;
            } else {
                ((int[]) sheets[s])[i] = v;
            }
            return 1;
        } catch (NullPointerException refused) {
            return -11;
        } catch (ArrayIndexOutOfBoundsException refused) {
            return -12;
        }
    }

    @SuppressWarnings("SuspiciousSystemArraycopy")
    int copy(int s, int i, int other, int j, int n) {
        if (!isIn(s, 0, 3) || !isIn(other, 0, 3)) {
            return -2;
        }
        try {
            System.arraycopy(sheets[s], i, sheets[other], j, n);
            return n;
        } catch (NullPointerException refused) {
            return -11;
        } catch (ArrayStoreException refused) {
            return -13;
        } catch (IndexOutOfBoundsException refused) {
            return -12;
        }
    }

    int unclesBy(int s, int sort, int from, int n) {
        if (!isIn(s, 0, 3) || !isIn(sort, 0, 2) || !isIn(n, 0, 6)) {
            return -2;
        }
        if (sheets[s] == null) {
            return -11;
        }
        int came = 0;
        try {
            Object row = List.of(byte[].class, short[].class, int[].class).get(sort).cast(sheets[s]);
            for (int i = 0; i < n; i++) {
                came += uncle(Array.getInt(row, from + 2 * i), Array.getInt(row, from + 2 * i + 1)) >= 0 ? 1 : 0;
            }
            return came;
        } catch (ClassCastException refused) {
            return -13;
        } catch (ArrayIndexOutOfBoundsException refused) {
            return -12;
        }
    }

    int taken(int i, int kind) {
        if (!isIn(kind, 0, 6)) {
            return -2;
        }
        Object[] there = new Object[12];
        for (int u = 0; u < now.uncles.size(); u++) {
            there[u] = now.uncles.get(u);
            there[u + 6] = hired(now, u) < now.uncles.get(u).room(now.year);
        }
        try {
            List<Class<?>> kinds = List.of(PlainUncle.class, PlainUncle.Jolly.class, PlainUncle.Sad.class,
                PlainUncle.Dwarf.class, PlainUncle.Orphan.class, PlainUncle.Aunt.class, Boolean.class);
            Object taken = kinds.get(kind).cast(there[i]);
            if (taken == null) {
                return -11;
            }
            return taken instanceof Boolean ? (boolean) taken ? 1 : 0 : i;
        } catch (ClassCastException refused) {
            return -13;
        } catch (ArrayIndexOutOfBoundsException refused) {
            return -12;
        }
    }
}
