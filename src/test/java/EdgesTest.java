import java.util.List;

/** What each promise answers where there is nothing, at the first and the last of all, and as soon as it is otherwise. */
public final class EdgesTest {
    private static UnclesByWard x;

    private EdgesTest() {
    }

    public static void main(String[] args) {
        nothing();
        childrenAlone();
        unclesAlone();
        nobodyAppointed();
        counts();
        asksOfTheLast();
        appointToTheLastRoom();
        yearOfTheLast();
        runOfTheLast();
        bestOfTies();
        wouldOfTheLast();
        wouldByOne();
        swapOfTheLast();
        ranksOfTheLast();
        spareOfTheLast();
        judgeByLength();
        judgeBySort();
        kindsOfTheLast();
        marksOfTheLast();
        whenAtTheEdges();
        whoseAndLaws();
        film();
        oddsAtTheEdges();
        oddsAsAllIsNow();
        backForgetsWhoCame();
        backAsItWas();
        sheetOfZeros();
        copies();
        unclesTwoByTwo();
        taken();
        Due.end();
    }

    /** Of this many CHILDREN, UNCLES and of NEEDS in all, none of whom has another. */
    private static void nobodyHasOne(int children, int uncles, int needs) {
        Due.is("count 0", x.count(0), children);
        Due.is("count 1", x.count(1), uncles);
        Due.is("count 3", x.count(3), 0);
        Due.is("all", x.all(), 0);
        for (int n = 0; n <= 40; n += 8) {
            Due.is("run", x.run(n, 0), needs);
        }
        Due.is("swap", x.swap(0), -1);
        Due.is("swap, as now", x.swap(1), 0);
        Due.is("image", x.image(), uncles);
        Due.is("year", x.year(), needs);
        Due.is("back", x.back(), uncles);
        Due.is("year 0", x.count(2), 0);
    }

    private static void nobodyToHave(int children) {
        for (int what = 0; what < 2; what++) {
            Due.is("best", x.best(what), 0);
            Due.is("settled", x.settled(what), 0);
            Due.is("would", x.would(what), -1);
            Due.is("drawn", x.drawn(0, what), 0);
            Due.is("drawn", x.drawn(99999, what), 0);
        }
        Due.is("settled", x.settled(2), 0);
        Due.is("spare", x.spare(1), 0);
        Due.is("odds of 0", x.odds(0, 60, 0, 0), 1);
        Due.is("odds of 0", x.odds(0, 60, 0, 1), 1);
        Due.is("odds of -9999", x.odds(99999, 60, -9999, 0), 1);
        Due.is("odds of 1", x.odds(0, 60, 1, 0), 0);
        Due.is("odds of 1", x.odds(0, 60, 1, 1), 1);
        x.sheet(3, 0, children);
        x.sheet(2, 2, children + 1);
        Due.is("whose, of more", x.whose(2), -2);
    }

    private static void nothing() {
        Due.by("No CHILDREN, no UNCLES");
        x = new UnclesByWard();
        nobodyHasOne(0, 0, 0);
        nobodyToHave(0);
        Due.is("spare", x.spare(0), -1);
        Due.is("ranks", x.ranks(0), -5);
        Due.is("whose", x.whose(3), 0);
        Due.is("judge", x.judge(3, 0), -5);
        Due.is("judge, of more", x.judge(2, 0), -2);
        Due.is("kinds", x.kinds(3, 0, 0), -5);
        Due.is("laws", x.laws(3, 0), -5);
        Due.is("appoint", x.appoint(0, -1), -5);
        Due.is("run of a child", x.run(0, 10), -2);
        Due.is("run of an uncle", x.run(0, 20), -2);
    }

    private static void childrenAlone() {
        Due.by("no UNCLES");
        x = Wards.of(Wards.needs(1234, 9999));
        nobodyHasOne(2, 0, 46);
        nobodyToHave(2);
        Due.is("spare", x.spare(0), -1);
        Due.is("ranks", x.ranks(0), 0);
        Due.is("ranks", x.ranks(1), 0);
        Due.is("whose", x.whose(3), 0);
        Due.is("judge", x.judge(3, 0), -5);
        Due.is("appoint none", x.appoint(1, -1), -1);
        Due.is("appoint", x.appoint(1, 0), -5);
        Due.is("run of a child", x.run(40, 11), 9999);
        Due.is("taken", x.taken(0, 0), -11);
    }

    private static void unclesAlone() {
        Due.by("no CHILDREN");
        x = Wards.of(Wards.needs(), 37, 9999, 59, 1234);
        nobodyHasOne(0, 2, 0);
        nobodyToHave(0);
        Due.is("spare", x.spare(0), 0);
        Due.is("ranks", x.ranks(0), -5);
        Due.is("whose", x.whose(3), 3);
        Due.is("judge", x.judge(3, 1), -1);
        Due.is("judge, of more", x.judge(2, 1), -2);
        Due.is("kinds", x.kinds(3, 1, 0), 63);
        Due.is("mores", x.kinds(3, 1, 1), 1023);
        Due.is("marks", x.marks(3, 1, 3), 1023);
        Due.is("when", x.when(3, 1, 0), 100);
        Due.is("when", x.when(3, 1, 1), 0);
        Due.is("laws", x.laws(3, 1), 1);
        Due.is("film", x.film(0, 1), 0);
        Due.is("a sheet of none", x.cell(0, 0, 0), -12);
        Due.is("run of an uncle", x.run(40, 20), 9999);
        Due.is("taken", x.taken(7, 6), 1);
    }

    private static void nobodyAppointed() {
        Due.by("CHILDREN, UNCLES, of whom none has another");
        x = Wards.of(Wards.needs(1000, 200), 0, 5000, 0, 600);
        nobodyHasOne(2, 2, 3);
        Due.is("best", x.best(0), 12);
        Due.is("settled", x.settled(0), 12);
        Due.is("would", x.would(0), 0);
        Due.is("would", x.would(1), 0);
        Due.is("spare", x.spare(0), 0);
        Due.is("spare", x.spare(1), 12);
    }

    private static void counts() {
        Due.by("count: 3 CHILDREN that have one");
        x = Wards.of(Wards.needs(0, 0, 0, 0, 0, 0), 39, 0, 39, 0);
        for (int c = 5; c >= 0; c--) {
            x.appoint(c, c % 2);
            Due.is("count 3", x.count(3), 6 - c);
            Due.is("count 0", x.count(0), 6);
        }
        for (int c = 0; c < 6; c++) {
            x.appoint(c, -1);
            Due.is("count 3", x.count(3), 5 - c);
        }
    }

    private static void asksOfTheLast() {
        Due.by("asks: childMark: 10 times the CHILD, and the place");
        x = Wards.of(Wards.needs(1234, 2345, 3456, 4567, 5678, 6789), 0, 0, 0, 0, 0, 0, 0, 0, 0, 0, 7, 9876);
        Wards.law(x, "need*10+mark", "need*which", "need");
        for (int c = 0; c < 6; c++) {
            for (int place = 0; place < 4; place++) {
                int need = 1 + c + place;
                Due.is("suits", x.asks(0, 5, 10 * c + place), 10 * need + 9 - place);
                Due.is("likes", x.asks(1, 5, 10 * c + place), need * place);
                Due.is("tires", x.asks(2, 5, 10 * c + place), need);
            }
            for (int place = 4; place < 10; place++) {
                Due.is("no such place", x.asks(0, 5, 10 * c + place), -1000);
            }
        }
        Due.is("no seventh child", x.asks(0, 5, 60), -1000);
    }

    private static void appointToTheLastRoom() {
        Due.by("appoint: STATE: he isn't the one it has, and has as many as ROOM, or more");
        int[] uncles = {9, 14, 15, 34, 35, 29, 49, 59};
        int[] rooms = {1, 1, 2, 3, 4, 1, 1, 1};
        for (int i = 0; i < uncles.length; i++) {
            x = Wards.of(Wards.needs(0, 0, 0, 0, 0, 0), uncles[i], 0);
            for (int c = 0; c < 6; c++) {
                Due.is("appoint " + c + " to " + uncles[i], x.appoint(c, 0), c < rooms[i] ? -1 : -3);
                Due.is("whom it has", x.told(c, 1), c < rooms[i] ? 0 : -1);
                Due.is("how many", x.told(0, 5), Math.min(c + 1, rooms[i]));
            }
            Due.is("the one it has", x.appoint(0, 0), 0);
            Due.is("none", x.appoint(0, -1), 0);
            Due.is("room for the last", x.appoint(5, 0), -1);
            Due.is("and for no more", x.appoint(0, 0), -3);
        }
    }

    private static void yearOfTheLast() {
        Due.by("year: A YEAR, truly: all NEEDS of all CHILDREN then, together. STATE: YEAR is 99");
        x = Wards.of(Wards.needs(1, 1, 1, 1, 1, 9999), 0, 0, 0, 0, 0, 0, 0, 0, 0, 0, 5, 9999);
        Wards.law(x, "1", "0", "1");
        x.appoint(5, 5);
        x.put(0, 2, 97);
        Due.is("year 97", x.year(), 40);
        Due.is("year 98", x.year(), 39);
        Due.is("year 99", x.year(), -3);
        Due.is("its needs", x.told(5, 0), 8899);
        Due.is("his marks", x.told(5, 2), 7777);
        Due.is("the others'", x.told(4, 0), 1);
        Due.is("in thought, none", x.run(0, 0), 39);
        Due.is("in thought, needs", x.run(1, 15), 8889);
        Due.is("in thought, marks", x.run(2, 25), 5555);
    }

    private static void runOfTheLast() {
        Due.by("run: n YEARS (0 .. 40), in thought: NEEDS of CHILD what less 10 (10 ..), MARKS of UNCLE what less 20 (20 ..)");
        x = Wards.of(Wards.needs(1111, 2222, 3333, 4444, 5555, 6666), 0, 1111, 0, 2222, 0, 3333, 0, 4444, 0, 5555, 0, 6666);
        for (int i = 0; i < 6; i++) {
            Due.is("needs of " + i, x.run(0, 10 + i), 1111 * (i + 1));
            Due.is("marks of " + i, x.run(40, 20 + i), 1111 * (i + 1));
        }
        for (int i = 0; i < 6; i++) {
            x.appoint(i, 5 - i);
        }
        for (int i = 0; i < 6; i++) {
            Due.is("needs of " + i + " in a year", x.run(1, 10 + i), 1111 * (i + 1) - 1000);
            Due.is("marks of " + i + " in a year", x.run(1, 20 + i), 1111 * i);
            Due.is("marks of " + i + " in three", x.run(3, 20 + i), 1111 * Math.max(0, i - 2));
            Due.is("marks of " + i + " in forty", x.run(40, 20 + i), 1111 * Math.max(0, i - 2));
        }
        Due.is("all needs", x.run(0, 0), 84);
        Due.is("all needs in a year", x.run(1, 0), 78);
    }

    private static void bestOfTies() {
        Due.by("best: by which no UNCLE has more CHILDREN than ROOM; of like ones the first as digits");
        x = Wards.of(Wards.needs(0, 0, 0, 0, 0, 0), 39, 0, 39, 0, 0, 0, 0, 0, 0, 0, 0, 0);
        Wards.law(x, "0", "0", "0");
        // The dwarfs suit by 18 and 5, four children each at most.
        Due.is("the first of the rows", x.best(0), 111122);
        Due.is("how much", x.best(1), 6 * 23);
        Wards.law(x, "0-(which=0)-5", "0", "0");
        // 18 - 6 - 5 - 5 + 5: still 7.
        Due.is("still above 0", x.best(0), 111122);
        Wards.law(x, "0-8", "0", "0");
        // 18 - 8 - 8 - 8 + 5: below 0.
        Due.is("all below 0", x.best(0), 0);
        Due.is("all below 0", x.best(1), 0);
        x = Wards.of(Wards.needs(1000, 1000, 1000), 0, 5000, 0, 0, 0, 5000);
        Due.is("of like ones the first", x.best(0), 13);
        x.put(0, 0, 2000);
        Due.is("one more", x.best(0), 103);
        x.put(1, 1, 5000);
        Due.is("room for all", x.best(0), 123);
        // Whose sum is the same, the least as digits.
        x = Wards.of(Wards.needs(1000, 1000), 0, 1000, 0, 2000);
        Due.is("the least of two", x.best(0), 12);
        x.put(1, 0, 3000);
        Due.is("the most", x.best(0), 12);
        x.put(0, 0, 4000);
        Due.is("the most", x.best(0), 21);
    }

    private static void wouldOfTheLast() {
        Due.by("would: The first CHILD, and with it the first UNCLE");
        x = Wards.of(Wards.needs(0, 0, 0, 0, 0, 0), 0, 0, 0, 0, 0, 0, 0, 0, 0, 0, 0, 0);
        Due.is("none", x.would(0), -1);
        Due.is("none", x.would(1), -1);
        x.put(5, 0, 1);
        Due.is("none", x.would(0), -1);
        x.put(5, 1, 1);
        Due.is("the last", x.would(0), 5);
        Due.is("the last", x.would(1), 5);
        x.put(4, 1, 1);
        Due.is("the last", x.would(0), 5);
        Due.is("the one ahead", x.would(1), 4);
        x.put(4, 0, 1);
        Due.is("the one ahead", x.would(0), 4);
        x.appoint(5, 5);
        x.appoint(4, 4);
        Due.is("each has one", x.would(0), -1);
        x.put(3, 1, 2);
        Due.is("who suits more", x.would(0), 4);
        Due.is("who suits more", x.would(1), 3);
    }

    private static void wouldByOne() {
        Due.by("would: he SUITS it more than whom it has (none: more than 0), and he has fewer than ROOM, "
            + "or ROOM is above 0, and he LIKES it more than any one of those he has");
        String[] suits = {"-1", "0-(which=0)", "0", "which=0", "1"};
        for (int i = 0; i < suits.length; i++) {
            x = Wards.of(Wards.needs(0), 0, 0);
            Wards.law(x, suits[i], "0", "0");
            Due.is("of none, by " + suits[i], x.would(0), i < 3 ? -1 : 0);
            x = Wards.of(Wards.needs(0), 0, 5000, 0, 5000);
            x.appoint(0, 0);
            Wards.law(x, "(" + suits[i] + ")*(mark<5)-20", "0", "0");
            Due.is("as much", x.would(0), -1);
            x.put(1, 1, 4000);
            // All at place 0: what it is more by is the text's number.
            Due.is("of one, by " + suits[i], x.would(0), i < 3 ? -1 : 0);
            Due.is("of one, by " + suits[i], x.would(1), i < 3 ? -1 : 1);
        }
        int[] needs = {4000, 5000, 6000};
        for (int i = 0; i < needs.length; i++) {
            x = Wards.of(Wards.needs(5000, needs[i]), 0, 1000);
            x.appoint(1, 0);
            // He likes by 36 less what all needs are.
            Due.is("liked more than one who needs " + needs[i], x.would(0), needs[i] > 5000 ? 0 : -1);
            x = Wards.of(Wards.needs(needs[i], 5000), 0, 1000);
            x.appoint(0, 0);
            Due.is("liked more than one who needs " + needs[i], x.would(0), needs[i] > 5000 ? 1 : -1);
        }
        x = Wards.of(Wards.needs(1000, 1000, 1000, 2000), 34, 1000);
        for (int room = 0; room < 3; room++) {
            Due.is("fewer than room", x.would(0), room);
            x.appoint(room, 0);
        }
        Due.is("as many as room", x.would(0), -1);
        x.put(2, 0, 3000);
        Due.is("as many as room, and one is liked less", x.would(0), 3);
        x = Wards.of(Wards.needs(1000, 9000), 51, 1000);
        x.appoint(1, 0);
        Due.is("an aunt with room", x.would(0), 0);
        x.put(0, 2, 11);
        Due.is("an aunt without", x.would(0), -1);
        x.put(0, 2, 12);
        Due.is("an aunt with room", x.would(0), 0);
    }

    private static void swapOfTheLast() {
        Due.by("swap: 10 times the one CHILD, and the other (the lesser first), if more than now, of like ones the first");
        for (int one = 0; one < 6; one++) {
            for (int other = 0; other < 6; other++) {
                x = Wards.of(Wards.needs(0, 0, 0, 0, 0, 0), 0, 9000);
                x.appoint(one, 0);
                x.put(other, 0, 1000);
                int due = 10 * Math.min(one, other) + Math.max(one, other);
                Due.is("changing " + one + " " + other, x.swap(0), one == other ? -1 : due);
                Due.is("all then", x.swap(1), 9);
            }
        }
        x = Wards.of(Wards.needs(5000, 5000, 4000, 5001), 0, 9000);
        x.appoint(0, 0);
        Due.is("as much isn't more", x.swap(0), -1);
        Due.is("as now", x.swap(1), 45);
        x.put(0, 1, 9001);
        Due.is("one more is", x.swap(0), 3);
        Due.is("one more is", x.swap(1), 46);
        x.appoint(0, -1);
        x.appoint(2, 0);
        Due.is("the most", x.swap(0), 23);
        x.put(3, 0, 5000);
        Due.is("of like ones the first", x.swap(0), 2);
        Due.is("it isn't done", x.all(), 36);
    }

    private static void ranksOfTheLast() {
        Due.by("ranks: All UNCLES as digits, who SUITS the CHILD most first, of like ones the lesser");
        x = Wards.of(Wards.needs(0, 0, 0, 0, 0, 1000), 0, 0, 0, 0, 0, 0, 0, 0, 0, 0, 0, 0);
        Due.is("all alike", x.ranks(5), 123456);
        for (int u = 0; u < 6; u++) {
            x.put(u, 1, 1000 * (u + 1));
        }
        Due.is("the last first", x.ranks(5), 654321);
        Due.is("all alike", x.ranks(0), 123456);
        x.put(0, 1, 6000);
        Due.is("of like ones the lesser", x.ranks(5), 165432);
        x.put(0, 1, 5000);
        Due.is("of like ones the lesser", x.ranks(5), 615432);
        Wards.law(x, "-mark*need", "0", "0");
        Due.is("below 0", x.ranks(5), 234156);
    }

    private static void spareOfTheLast() {
        Due.by("spare: The UNCLE without whom (ROOM 0) best(1) would be most, of like ones the first");
        for (int u = 0; u < 6; u++) {
            x = Wards.of(Wards.needs(1000, 1000, 1000, 1000, 1000, 1000), 0, 4000, 0, 4000, 0, 4000, 0, 4000, 0, 4000, 0, 4000);
            x.put(u, 1, 3000);
            Due.is("the least", x.spare(0), u);
            Due.is("the least", x.spare(1), 20);
            x.put(u, 1, 5000);
            Due.is("the first that isn't most", x.spare(0), u == 0 ? 1 : 0);
            Due.is("the first that isn't most", x.spare(1), 21);
        }
        x = Wards.of(Wards.needs(1000), 0, 4000, 0, 5000);
        Wards.law(x, "-mark", "0", "0");
        Due.is("all below 0", x.spare(0), 0);
        Due.is("all below 0", x.spare(1), 0);
        x = Wards.of(Wards.needs(1000, 1000), 0, 4000, 53, 9000);
        Due.is("who has room", x.spare(0), 0);
        x.put(0, 2, 3);
        Due.is("who has no room", x.spare(0), 1);
        Due.is("who has no room", x.spare(1), 4);
    }

    private static void judgeByLength() {
        Due.by("judge: A SHEET tells how much an UNCLE SUITS CHILDREN 0, 1, ..: the first that is otherwise; -1: none");
        x = Wards.of(Wards.needs(1, 2, 3, 4, 5, 6), 0, 9, 0, 8);
        for (int length = 0; length < 8; length++) {
            x.sheet(0, 2, length);
            for (int i = 0; i < length; i++) {
                x.cell(0, i, 9 * (i + 1));
            }
            Due.is("as long as " + length, x.judge(0, 0), length > 6 ? -2 : -1);
            Due.is("whose, as long as " + length, x.whose(0), length > 6 ? -2 : length == 0 ? 3 : 1);
            for (int i = length - 1; i >= 0 && length < 7; i--) {
                x.cell(0, i, 9 * (i + 1) + 1);
                Due.is("1 more at " + i, x.judge(0, 0), i);
                x.cell(0, i, 9 * (i + 1) - 1);
                Due.is("1 less at " + i, x.judge(0, 0), i);
            }
        }
        x.sheet(0, 0, 40);
        Due.is("the longest", x.judge(0, 0), -2);
    }

    private static void judgeBySort() {
        Due.by("SHEETS: of sort 0 bytes, 1 shorts, 2 ints: what a CHILD is SUITED by more than a byte can't be told by one");
        int[] suited = {-396, -129, -128, -1, 0, 127, 128, 255, 256, 396};
        for (int v : suited) {
            x = Wards.of(Wards.needs(0), 0, 0);
            Wards.law(x, v / 4 + "+" + v % 4 + "*(which=0)", "0", "0");
            Due.is("suited", x.suit(0, 0, 0), v);
            Wards.sheet(x, 0, 0, v);
            Wards.sheet(x, 1, 1, v);
            Wards.sheet(x, 2, 2, v);
            Due.is("by a byte " + v, x.judge(0, 0), v < -128 || v > 127 ? 0 : -1);
            Due.is("by a short " + v, x.judge(1, 0), -1);
            Due.is("by an int " + v, x.judge(2, 0), -1);
            Wards.sheet(x, 1, 1, v + 65536);
            Wards.sheet(x, 2, 2, v + 65536);
            Due.is("by a short, cut", x.judge(1, 0), -1);
            Due.is("by an int, not cut", x.judge(2, 0), 0);
        }
    }

    private static void kindsOfTheLast() {
        Due.by("kinds: KINDS (sort 0; bits 0 .. 5), MORE (1; bits 0 .. 9) by which, were they his, that would be -1");
        // Said are 16, 0, 8, 0: twice and half by a sad one, who has the same mark at one place.
        int[] suited = {24, 24 + 18, 32 + 4, 24 + 18 + 5, 32 + 4 + 9, 24};
        int[] kinds = {33, 2, 4, 8, 16, 33};
        for (int u = 0; u < 6; u++) {
            for (int kind = 0; kind < 6; kind++) {
                x = Wards.of(Wards.needs(8040));
                for (int v = 0; v < 6; v++) {
                    x.uncle(v == u ? 10 * kind + 9 : 59 - v, v == u ? 2017 : 9999);
                }
                Wards.law(x, "mark*need+4*(which=2)", "0", "0");
                Due.is("suited by kind " + kind, x.suit(0, u, 0), suited[kind]);
                for (int told = 0; told < 6; told++) {
                    Wards.sheet(x, 3, 2, suited[told]);
                    Due.is("kinds by " + suited[told], x.kinds(3, u, 0), kinds[told]);
                }
                mores(u, kind);
                Due.is("his kind stays", x.told(u, 3), kind);
                Due.is("his more stays", x.told(u, 4), 9);
            }
        }
    }

    /** What he SUITS by goes with his MORE, or it doesn't. */
    private static void mores(int u, int kind) {
        int[] least = {24, 24, 36, 29, 36, 24};
        int[] each = {0, 2, 0, 2, 1, 0};
        for (int more = -1; more < 11; more++) {
            int told = least[kind] + (each[kind] == 0 ? more : each[kind] * more);
            Wards.sheet(x, 3, 2, told);
            int due = each[kind] == 0 ? more == 0 ? 1023 : 0 : more < 0 || more > 9 ? 0 : 1 << more;
            Due.is("mores by " + told + " of kind " + kind, x.kinds(3, u, 1), due);
        }
    }

    private static void marksOfTheLast() {
        Due.by("marks: MARKS (bits 0 .. 9) at place k (0 .. 3) by which, were it his, all others as they are, that would be -1");
        x = Wards.of(Wards.needs(1111), 0, 0, 0, 0, 0, 0, 0, 0, 0, 0, 0, 2345);
        for (int told = 0; told < 60; told++) {
            Wards.sheet(x, 0, 0, told);
            for (int k = 0; k < 4; k++) {
                // The others' marks are 14 less what stands there.
                int mark = told - (14 - (k + 2));
                Due.is("told " + told + " at " + k, x.marks(0, 5, k), mark >= 0 && mark < 10 ? 1 << mark : 0);
            }
        }
        Due.is("they stay", x.told(5, 2), 2345);
    }

    private static void whenAtTheEdges() {
        Due.by("when: YEARS (0 .. 99), were it that, by which that would be -1: how many (what 0), the first (1; -1: none)");
        String[] suits = {"year=0", "year=99", "98<year", "year<1", "year<100", "99<year", "not year=0", "year=50 or year=51"};
        int[] many = {1, 1, 1, 1, 100, 0, 99, 2};
        int[] first = {0, 99, 99, 0, 0, -1, 1, 50};
        int[] now = {0, 50, 99};
        for (int i = 0; i < suits.length; i++) {
            x = Wards.of(Wards.needs(0), 0, 0, 0, 0, 0, 0, 0, 0, 0, 0, 0, 0);
            Wards.law(x, suits[i], "0", "0");
            Wards.sheet(x, 0, 0, 4);
            for (int year : now) {
                x.put(0, 2, year);
                Due.is("how many " + suits[i], x.when(0, 5, 0), many[i]);
                Due.is("the first " + suits[i], x.when(0, 5, 1), first[i]);
                Due.is("year stays", x.count(2), year);
            }
        }
        x.sheet(0, 0, 0);
        Due.is("of nobody", x.when(0, 0, 0), 100);
        Due.is("of nobody", x.when(0, 0, 1), 0);
    }

    private static void whoseAndLaws() {
        Due.by("whose: UNCLES (bits) of whom that is -1; laws: TEXTS (bits), were they THE LAW, by which that would be -1");
        x = Wards.of(Wards.needs(1000), 0, 1000, 0, 2000, 0, 3000, 0, 1000, 0, 2000, 0, 3000);
        for (int told = 0; told < 5; told++) {
            Wards.sheet(x, 1, 1, told);
            Due.is("whose " + told, x.whose(1), told == 0 || told == 4 ? 0 : 9 << told - 1);
        }
        x.sheet(1, 1, 0);
        Due.is("whose, of nobody", x.whose(1), 63);
        Due.is("laws, of nobody, by one", x.laws(1, 0), 1);
        for (int t = 1; t < 6; t++) {
            Tape.read(x, "suits " + t % 3 + "*(which=0);likes 0;tires 0;");
            Due.is("laws, of nobody", x.laws(1, 0), (2 << t) - 1);
        }
        int[] due = {8, 1 + 2 + 16, 4 + 32, 0};
        for (int told = 0; told < 4; told++) {
            Wards.sheet(x, 1, 1, told);
            for (int t = 0; t < 6; t++) {
                x.force(t);
                Due.is("laws of " + told, x.laws(1, 3), due[told]);
                Due.is("the law stays", x.count(5), t);
            }
        }
    }

    private static void film() {
        Due.by("film: A SHEET truly becomes how much an UNCLE SUITS all CHILDREN (ints): how many they are");
        for (int children = 0; children < 7; children++) {
            x = Wards.of(Wards.needs(), 0, 1000, 0, 8100);
            for (int c = 0; c < children; c++) {
                x.child(1000 * c + 100);
            }
            for (int s = 0; s < 4; s++) {
                x.sheet(s, s - 1, 40);
                Due.is("film " + s, x.film(s, 1), children);
                Due.is("so long", x.cell(s, children, 7), -12);
                Due.is("of ints", x.unclesBy(s, 2, 0, 0), 0);
                Due.is("as he suits", x.judge(s, 1), -1);
                Due.is("by none other", x.whose(s), children < 1 ? 3 : 2);
                Due.is("all of them", x.copy(s, 0, s, 0, children), children);
            }
        }
    }

    private static void oddsAtTheEdges() {
        Due.by("odds: By how many of so many (1 .. 60) seeds, that is least (-9999 .. 9999) or more, in lowest terms");
        x = Wards.of(Wards.needs(1000, 2000), 0, 3000, 0, 4000);
        int[] sums = new int[60];
        for (int i = 0; i < 60; i++) {
            sums[i] = x.drawn(99940 + i, 0);
        }
        for (int least : new int[] {-9999, -1, 0, 1, 3, 4, 8, 10, 11, 12, 9999}) {
            for (int seeds : new int[] {1, 2, 3, 59, 60}) {
                int enough = 0;
                for (int i = 0; i < seeds; i++) {
                    enough += sums[i] >= least ? 1 : 0;
                }
                int common = common(enough, seeds);
                Due.is("above, least " + least, x.odds(99940, seeds, least, 0), enough / common);
                Due.is("below, least " + least, x.odds(99940, seeds, least, 1), seeds / common);
            }
        }
        for (int i = 0; i < 60; i++) {
            Due.is("as much as least", x.odds(99940 + i, 1, sums[i], 0), 1);
            Due.is("1 less than least", x.odds(99940 + i, 1, sums[i] + 1, 0), 0);
        }
        Due.by("odds: SEED and each 1 more (they may pass 99999)");
        x = Wards.of(Wards.needs(1000), 0, 1000, 53, 9000);
        x.put(0, 2, 3);
        // The aunt has no room, so that every second lot, more or less, is enough.
        for (int seeds = 1; seeds < 61; seeds++) {
            int enough = 0;
            for (int i = 0; i < seeds; i++) {
                enough += (100000L + i) * 48271 % 2147483647 % 2 == 0 ? 1 : 0;
            }
            int common = common(enough, seeds);
            Due.is("above", x.odds(99999, seeds, 1, 0), enough / common);
            Due.is("below", x.odds(99999, seeds, 1, 1), seeds / common);
        }
        Due.by("odds: that is least (-9999 .. 9999) or more");
        x = Wards.of(Wards.needs(9999, 9999), 39, 9999);
        Wards.law(x, "-99", "0", "0");
        // 18 - 99 - 99 - 99 + 5, of both.
        Due.is("below 0", x.drawn(0, 0), -548);
        Due.is("as much as least", x.odds(0, 60, -548, 0), 1);
        Due.is("less than least", x.odds(0, 60, -547, 0), 0);
    }

    private static int common(int enough, int seeds) {
        int common = seeds;
        while (enough % common != 0 || seeds % common != 0) {
            common--;
        }
        return common;
    }

    /** odds is asked first of all, and again behind each change. */
    private static void oddsAsAllIsNow() {
        Due.by("What is asked is asked of all as it is now");
        x = Wards.of(Wards.needs(1000), 0, 5000);
        Due.is("odds", x.odds(0, 1, 5, 0), 1);
        x.put(0, 0, 0);
        Due.is("odds", x.odds(0, 1, 5, 0), 0);
        x.put(0, 0, 2000);
        Due.is("odds", x.odds(0, 1, 10, 0), 1);
        Due.is("drawn", x.drawn(0, 0), 10);
        x.put(0, 1, 4000);
        Due.is("drawn", x.drawn(0, 0), 8);
        x.put(0, 1, 3000);
        Due.is("best", x.best(1), 6);
        x.put(0, 1, 2000);
        Due.is("spare", x.spare(1), 0);
        Due.is("settled", x.settled(1), 4);
        x.uncle(0, 9000);
        Due.is("ranks", x.ranks(0), 21);
        x.put(1, 1, 1000);
        Due.is("ranks", x.ranks(0), 12);
        x.appoint(0, 1);
        x.child(0);
        Due.is("swap", x.swap(1), 2);
        x.put(1, 0, 7000);
        Due.is("swap", x.swap(1), 7);
        Due.is("odds", x.odds(0, 60, 0, 0), 1);
    }

    private static void backForgetsWhoCame() {
        Due.by("back: CHILDREN, UNCLES that came since are none");
        x = Wards.some();
        x.image();
        List<Long> due = Wards.seen(x);
        x = Wards.some();
        x.image();
        for (int i = 0; i < 6; i++) {
            x.child(9999);
            x.uncle(39, 9999);
        }
        for (int c = 2; c < 6; c++) {
            x.appoint(c, -1);
            x.appoint(c, 0);
            x.appoint(c, 5);
        }
        x.best(0);
        x.settled(0);
        x.drawn(0, 0);
        Due.is("back", x.back(), 2);
        Due.holds("nobody that came is seen", Wards.seen(x).equals(due));
        // Whoever came would have been the one that would, that is changed, that is spared.
        x = Wards.of(Wards.needs(1000), 0, 1000);
        x.appoint(0, 0);
        x.image();
        x.child(500);
        x.uncle(0, 9900);
        x.appoint(0, -1);
        x.appoint(1, 0);
        x.back();
        Due.is("would", x.would(0), -1);
        Due.is("swap", x.swap(0), -1);
        Due.is("best", x.best(0), 1);
        Due.is("settled", x.settled(0), 1);
        Due.is("spare", x.spare(0), 0);
        Due.is("ranks", x.ranks(0), 1);
        Due.is("hired", x.told(0, 5), 1);
        Due.is("all", x.all(), 1);
        Due.is("year", x.year(), 0);
        x = Wards.of(Wards.needs(9000, 1000), 0, 1000);
        x.appoint(0, 0);
        x.image();
        x.appoint(0, -1);
        x.child(9900);
        x.appoint(2, 0);
        x.back();
        Due.is("who came since isn't one of those he has", x.would(0), 1);
        x.put(0, 0, 1000);
        Due.is("who came since isn't one of those he has", x.would(0), -1);
    }

    private static void backAsItWas() {
        Due.by("back: All that it keeps is as in THE IMAGE. STATE: there is none");
        for (int n = 0; n < 7; n++) {
            x = new UnclesByWard();
            Due.is("none yet", x.back(), -3);
            for (int i = 0; i < n; i++) {
                x.child(1111 * i);
                x.uncle(11 * i, 9 * i);
            }
            Due.is("image", x.image(), n);
            for (int i = n; i < 6; i++) {
                x.child(7);
                x.uncle(7, 7);
            }
            for (int i = 0; i < 6; i++) {
                x.put(i, 0, 1);
                x.put(i, 1, 1);
                x.appoint(i, 5 - i);
            }
            for (int again = 0; again < 2; again++) {
                Due.is("back", x.back(), n);
                Due.is("children", x.count(0), n);
                Due.is("that have one", x.count(3), 0);
                for (int i = 0; i < 6; i++) {
                    Due.is("needs", x.told(i, 0), i < n ? 1111 * i : -5);
                    Due.is("uncle", x.told(i, 1), i < n ? -1 : -5);
                    Due.is("marks", x.told(i, 2), i < n ? 9 * i : -5);
                    Due.is("kind", x.told(i, 3), i < n ? i : -5);
                    Due.is("more", x.told(i, 4), i < n ? i : -5);
                }
            }
        }
    }

    private static void sheetOfZeros() {
        Due.by("sheet: A SHEET becomes a row of n of a sort, all 0, or missing (sort -1: n does not matter): 1");
        for (int was = 0; was < 3; was++) {
            for (int sort = 0; sort < 3; sort++) {
                x = Wards.of(Wards.needs(0, 0, 0, 0, 0, 0), 0, 0);
                Wards.sheet(x, 0, was, 1, 2, 3, 4, 5, 6, 7, 8);
                Due.is("a row", x.sheet(0, sort, 6), 1);
                Due.is("all 0", x.judge(0, 0), -1);
                x.cell(0, 5, 9);
                Due.is("but one", x.judge(0, 0), 5);
                Due.is("of the same sort and length", x.sheet(0, sort, 6), 1);
                Due.is("all 0", x.judge(0, 0), -1);
                x.cell(0, 5, 9);
                Due.is("shorter", x.sheet(0, sort, 3), 1);
                Due.is("longer", x.sheet(0, sort, 6), 1);
                Due.is("all 0", x.judge(0, 0), -1);
                x.cell(0, 0, 9);
                Due.is("missing", x.sheet(0, -1, 6), 1);
                Due.is("nothing there", x.judge(0, 0), -11);
                Due.is("a row again", x.sheet(0, sort, 6), 1);
                Due.is("all 0", x.judge(0, 0), -1);
            }
        }
    }

    private static void unclesTwoByTwo() {
        Due.by("unclesBy: from a place on, two by two (as of uncle()), n of them (0 .. 6)");
        for (int sort = 0; sort < 3; sort++) {
            for (int n = 0; n < 7; n++) {
                x = new UnclesByWard();
                Wards.sheet(x, 0, sort, 9, 9, 59, 100, 48, 101, 37, 102, 26, 103, 15, 104, 4, 105);
                Due.is("so many", x.unclesBy(0, sort, 2, n), n);
                Due.is("so many", x.count(1), n);
                for (int u = 0; u < n; u++) {
                    Due.is("kind", x.told(u, 3), 5 - u);
                    Due.is("more", x.told(u, 4), 9 - u);
                    Due.is("marks", x.told(u, 2), 100 + u);
                }
            }
        }
    }

    /** Each number is seen by the MARKS of an UNCLE that comes by it. */
    private static void copies() {
        Due.by("copy: n numbers of a SHEET, from i on, come to another one's (or its own) place j (as they were): n");
        for (int i = 0; i <= 6; i++) {
            for (int j = 0; j <= 6; j++) {
                for (int n = 0; n <= 6 - Math.max(i, j); n++) {
                    copied(1, i, j, n);
                    copied(2, i, j, n);
                }
            }
        }
    }

    private static void copied(int other, int i, int j, int n) {
        x = new UnclesByWard();
        Wards.sheet(x, 1, 2, 10, 11, 12, 13, 14, 15);
        Wards.sheet(x, 2, 2, 20, 21, 22, 23, 24, 25);
        Due.is("copy", x.copy(1, i, other, j, n), n);
        x.image();
        x.sheet(0, 2, 2);
        for (int at = 0; at < 6; at++) {
            x.copy(other, at, 0, 1, 1);
            x.unclesBy(0, 2, 0, 1);
            boolean isCopied = at >= j && at < j + n;
            Due.is("number " + at, x.told(0, 2), isCopied ? 10 + i + at - j : 10 * other + at);
            x.back();
        }
    }

    private static void taken() {
        Due.by("taken: 6 .. 11 whether they have fewer CHILDREN than ROOM");
        x = Wards.of(Wards.needs(0, 0, 0, 0, 0), 0, 0, 15, 0, 0, 0, 0, 0, 0, 0, 35, 0);
        for (int c = 0; c < 5; c++) {
            Due.is("so many have the last", x.taken(11, 6), c < 4 ? 1 : 0);
            Due.is("the second has fewer", x.taken(7, 6), 1);
            x.appoint(c, 5);
        }
        x.appoint(3, 1);
        Due.is("three have him", x.taken(11, 6), 1);
        Due.is("one has the second", x.taken(7, 6), 1);
        x.appoint(4, 1);
        Due.is("two have the second", x.taken(7, 6), 0);
        Due.is("a dwarf is a jolly one", x.taken(5, 1), 5);
        x = Wards.of(Wards.needs(0), 54, 0);
        x.appoint(0, 0);
        Due.is("an aunt that one has", x.taken(6, 6), 0);
        x.appoint(0, -1);
        Due.is("an aunt that none has", x.taken(6, 6), 1);
        x.put(0, 2, 94);
        Due.is("without room", x.taken(6, 6), 0);
    }
}
