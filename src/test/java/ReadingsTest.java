import java.util.List;

/** Sentences that can be read otherwise without any other of these tests seeing it: each is told ahead of its test. */
public final class ReadingsTest {
    private static UnclesByWard x;

    private ReadingsTest() {
    }

    public static void main(String[] args) {
        suitedByHiredNow();
        likedByHiredNow();
        roomByTheRowAlone();
        settledByMostAsks();
        settledOfTheLastOnes();
        settledByShortOnes();
        swapWithoutRoom();
        moreThanRoom();
        wouldLeaveFour();
        whoComesBehindBack();
        imageKeepsNoMore();
        backKeepsTheImage();
        noneFromAnyPlace();
        tiredByNeedOfNobody();
        tiredByFour();
        yearsByTheYear();
        oddsBehindTheLastSeed();
        spareOfMuchRoom();
        ranksFarBelow();
        putAsItIs();
        filmedThen();
        toldByYearAndLaw();
        sixOfThem();
        yearOfWhomItHas();
        settledOfTheLastUncle();
        Due.end();
    }

    /** Child 0 has uncle 1, so that he suits by mark * need, and uncle 0 by nothing. */
    private static void oneHasTheSecond() {
        x = Wards.of(Wards.needs(1000, 2000), 0, 4000, 0, 3000);
        Wards.law(x, "mark*need*hired", "need*hired", "hired");
        x.appoint(0, 1);
    }

    private static void suitedByHiredNow() {
        Due.by("hired: how many CHILDREN have that UNCLE (as it is now, whoever else is asked of)");
        oneHasTheSecond();
        Due.is("all", x.all(), 3);
        Due.is("whom none has", x.suit(1, 0, 0), 0);
        Due.is("whom one has", x.suit(1, 1, 0), 6);
        Due.is("best, the row", x.best(0), 2);
        Due.is("best, how much", x.best(1), 6);
        Due.is("settled, how much", x.settled(1), 6);
        Due.is("settled, how many", x.settled(2), 1);
        Due.is("ranks of the one that has him", x.ranks(0), 21);
        Due.is("ranks of the other", x.ranks(1), 21);
        Due.is("swap", x.swap(0), 1);
        Due.is("swap, all then", x.swap(1), 6);
        Due.is("spare", x.spare(0), 0);
        Due.is("spare, best without him", x.spare(1), 6);
        // The first LOTS by 0 are 48271 and 182605794: uncle 1, then uncle 0.
        Due.is("drawn, the row", x.drawn(0, 1), 21);
        Due.is("drawn, how much", x.drawn(0, 0), 3);
        Due.is("odds of as much", x.odds(0, 1, 3, 0), 1);
        Due.is("odds of more", x.odds(0, 1, 4, 0), 0);
        Due.is("film", x.film(0, 1), 2);
        Due.is("judge", x.judge(0, 1), -1);
        Due.is("whose", x.whose(0), 2);
        Due.is("marks", x.marks(0, 1, 0), 1 << 3);
        Due.is("kinds: an uncle, a jolly one of more 0, an aunt", x.kinds(0, 1, 0), 35);
        Due.is("mores, which tell nothing of an uncle", x.kinds(0, 1, 1), 1023);
        Due.is("when", x.when(0, 1, 0), 100);
        Due.is("laws", x.laws(0, 1), 3);
        x.appoint(1, 0);
        Due.is("when the other has the other", x.whose(0), 2);
        x.appoint(1, -1);
        x.appoint(0, -1);
        Due.is("when none has him he suits nobody", x.whose(0), 0);
        Due.is("best when none has one", x.best(0), 0);
        Due.is("spare when none has one", x.spare(1), 0);
        Due.is("ranks when none has one", x.ranks(1), 12);
        Due.is("odds when none has one", x.odds(0, 60, 1, 0), 0);
    }

    private static void likedByHiredNow() {
        Due.by("SETTLED, as all is now: he lets go of the one he LIKES least, of like ones the greatest number");
        oneHasTheSecond();
        Due.is("he likes the second more, as one has him", x.settled(0), 2);
        Due.is("would", x.would(0), 1);
        Due.is("would", x.would(1), 1);
        x = Wards.of(Wards.needs(1000, 2000), 0, 4000);
        Wards.law(x, "mark*need", "need*hired", "0");
        Due.is("he likes both alike, as none has him", x.settled(0), 10);
        x.appoint(0, 0);
        Due.is("he likes the second more, as one has him", x.settled(0), 1);
    }

    private static void roomByTheRowAlone() {
        Due.by("ROWS by which no UNCLE has more CHILDREN than ROOM (whoever has him now)");
        x = Wards.of(Wards.needs(1000, 2000), 0, 4000);
        for (int c = -1; c < 2; c++) {
            if (c >= 0) {
                x.appoint(c, 0);
            }
            Due.is("best", x.best(0), 1);
            Due.is("settled", x.settled(0), 10);
            Due.is("drawn", x.drawn(0, 1), 10);
            Due.is("spare", x.spare(1), 0);
            x.appoint(Math.max(c, 0), -1);
        }
    }

    /** Six of both, each with room for one, ask 31 times at most: in each of these wards they do. */
    private static void settledByMostAsks() {
        Due.by("As long as there is a CHILD that isn't kept, and an UNCLE who SUITS it by more than 0 whom it hasn't asked yet");
        x = Wards.of(Wards.needs(3271, 2868, 42, 9588, 6517, 1511),
            43, 5056, 21, 7171, 40, 2000, 40, 9460, 4, 1555, 22, 8812);
        Wards.law(x, "mark*need", "0-mark*need*(which<2)+mark*need*(1<which)", "0");
        settledAfter("the first", 31);
        x = Wards.of(Wards.needs(9275, 8957, 1150, 3183, 774, 9185),
            13, 6760, 42, 3347, 4, 6003, 43, 5160, 14, 1958, 0, 9278);
        Wards.law(x, "mark*need", "0-mark*need*(which<2)+mark*need*(1<which)", "0");
        settledAfter("the second", 31);
        x = Wards.of(Wards.needs(5570, 8302, 6319, 9445, 4282, 8128),
            10, 9555, 4, 3343, 42, 5656, 21, 6287, 21, 8054, 13, 6798);
        Wards.law(x, "20-(mark-need)*(mark-need)", "(mark-need)*(mark-need)", "0");
        settledAfter("the third", 31);
        x = Wards.of(Wards.needs(624, 5687, 1408, 1979, 2072, 3482),
            40, 720, 42, 4744, 12, 7111, 12, 8647, 10, 3382, 41, 32);
        Wards.law(x, "40+mark*need*(not which=1)-mark*need*(which=1)*2", "mark*need*(1-which)+need", "0");
        settledAfter("the fourth", 31);
    }

    /** Settled as the sentence says, the last child asking first; and when they have whom they have by it, no two would rather. */
    private static void settledAfter(String name, int mostAsks) {
        int[][] suits = table(0);
        int[][] likes = table(1);
        int[] row = {-1, -1, -1, -1, -1, -1};
        boolean[][] hasAsked = new boolean[6][6];
        int asks = 0;
        for (int c = nextToAsk(row, suits, hasAsked); c >= 0; c = nextToAsk(row, suits, hasAsked)) {
            int u = nextAsked(suits[c], hasAsked[c]);
            hasAsked[c][u] = true;
            row[c] = u;
            letGo(row, u, likes);
            asks++;
        }
        Due.is(name + ": asks", asks, mostAsks);
        int digits = 0;
        int sum = 0;
        int many = 0;
        for (int c = 0; c < 6; c++) {
            digits = digits * 10 + row[c] + 1;
            sum += row[c] < 0 ? 0 : suits[c][row[c]];
            many += row[c] < 0 ? 0 : 1;
        }
        Due.is(name + ": settled, the row", x.settled(0), digits);
        Due.is(name + ": settled, how much", x.settled(1), sum);
        Due.is(name + ": settled, how many", x.settled(2), many);
        for (int c = 0; c < 6; c++) {
            x.appoint(c, row[c]);
        }
        Due.is(name + ": no two would rather", x.would(0), -1);
    }

    private static int[][] table(int what) {
        int[][] table = new int[6][6];
        for (int c = 0; c < 6; c++) {
            for (int u = 0; u < 6; u++) {
                table[c][u] = x.suit(c, u, what);
            }
        }
        return table;
    }

    private static int nextToAsk(int[] row, int[][] suits, boolean[][] hasAsked) {
        for (int c = 5; c >= 0; c--) {
            if (row[c] < 0 && nextAsked(suits[c], hasAsked[c]) >= 0) {
                return c;
            }
        }
        return -1;
    }

    private static int nextAsked(int[] suits, boolean[] hasAsked) {
        int next = -1;
        for (int u = 0; u < 6; u++) {
            if (!hasAsked[u] && suits[u] > 0 && (next < 0 || suits[u] > suits[next])) {
                next = u;
            }
        }
        return next;
    }

    private static void letGo(int[] row, int u, int[][] likes) {
        int keeps = 0;
        int least = -1;
        for (int c = 0; c < 6; c++) {
            if (row[c] == u) {
                keeps++;
                least = least < 0 || likes[c][u] <= likes[least][u] ? c : least;
            }
        }
        if (keeps > x.told(u, 6)) {
            row[least] = -1;
        }
    }

    private static void settledOfTheLastOnes() {
        Due.by("he lets go of those the one he LIKES least, of like ones the greatest number");
        int[] uncles = {0, 15, 30, 35};
        int[] ofMore = {1, 11, 111, 1111};
        int[] ofLess = {100000, 110000, 111000, 111100};
        for (int i = 0; i < uncles.length; i++) {
            x = Wards.of(Wards.needs(1000, 2000, 3000, 4000, 5000, 6000), uncles[i], 9000);
            Wards.law(x, "mark", "need", "0");
            Due.is("the last are liked most", x.settled(0), ofMore[i]);
            Wards.law(x, "mark", "-need", "0");
            Due.is("the first are liked most", x.settled(0), ofLess[i]);
            Wards.law(x, "mark", "5", "0");
            Due.is("all are liked alike", x.settled(0), ofLess[i]);
        }
        // The one liked most, wherever it stands among the others.
        for (int most = 0; most < 6; most++) {
            x = Wards.of(Wards.needs(1000, 1000, 1000, 1000, 1000, 1000), 0, 9000);
            Wards.law(x, "mark", "need", "0");
            x.put(most, 0, 2000);
            int row = 100000;
            for (int c = 0; c < most; c++) {
                row /= 10;
            }
            Due.is("the one liked most is " + most, x.settled(0), row);
        }
    }

    private static void settledByShortOnes() {
        Due.by("SETTLED: an UNCLE who SUITS it by more than 0 whom it hasn't asked yet (else it has none)");
        // Six children, one who suits: five have asked all that they can.
        x = Wards.of(Wards.needs(1000, 2000, 3000, 4000, 5000, 6000), 0, 0, 0, 0, 0, 0, 0, 0, 0, 0, 0, 1000);
        Wards.law(x, "mark*need", "need", "0");
        Due.is("the one he likes most", x.settled(0), 6);
        Due.is("how much", x.settled(1), 6);
        Due.is("how many", x.settled(2), 1);
    }

    private static void swapWithoutRoom() {
        Due.by("swap: by whose changing UNCLES (or none) ALL would be most (whatever ROOM there is)");
        x = Wards.of(Wards.needs(1000, 2000, 3000), 53, 5000);
        x.appoint(0, 0);
        Due.is("an aunt with room", x.swap(0), 2);
        x.put(0, 2, 43);
        Due.is("an aunt without room", x.told(0, 6), 0);
        Due.is("is changed, too", x.swap(0), 2);
        Due.is("all then", x.swap(1), 15);
        Due.is("would: she takes nobody", x.would(0), -1);
    }

    private static void moreThanRoom() {
        Due.by("taken, would, appoint: fewer CHILDREN than ROOM; an AUNT's is 0 when YEAR modulo 10 is MORE, whoever has her");
        x = Wards.of(Wards.needs(1000, 2000), 54, 1000, 0, 0);
        x.appoint(0, 0);
        for (int year = 0; year < 100; year += year < 15 ? 1 : 9) {
            x.put(0, 2, year);
            Due.is("room", x.told(0, 6), year % 10 == 4 ? 0 : 1);
            Due.is("one has her still", x.told(0, 5), 1);
            Due.is("she has no fewer", x.taken(6, 6), 0);
            Due.is("for another there is no room", x.appoint(1, 0), -3);
            Due.is("whom it has", x.appoint(0, 0), 0);
            Due.is("the other has fewer", x.taken(7, 6), 1);
            // The lots are as above: the second child's is the aunt.
            Due.is("drawn", x.drawn(0, 1), year % 10 == 4 ? 20 : 21);
        }
    }

    private static void wouldLeaveFour() {
        Due.by("would: such that it doesn't have him, he SUITS it more than whom it has");
        x = Wards.of(Wards.needs(1000, 1000, 1000, 1000), 35, 1000, 0, 9900);
        Wards.law(x, "mark*4", "0", "0");
        for (int c = 0; c < 4; c++) {
            x.appoint(c, 0);
        }
        // 4 + 10 + 5 by the dwarf, 36 + 36 by the other.
        Due.is("one of four would", x.would(0), 0);
        Due.is("have the other", x.would(1), 1);
        x.appoint(0, 1);
        Due.is("he has no room then, and likes all alike", x.would(0), -1);
    }

    private static void whoComesBehindBack() {
        Due.by("CHILDREN: with NEEDS, and an UNCLE or none (as one comes); UNCLES: of a KIND, with MORE, with MARKS");
        for (int before = 0; before < 6; before++) {
            x = new UnclesByWard();
            for (int i = 0; i < before; i++) {
                x.child(1000);
                x.uncle(39, 1000);
            }
            x.image();
            for (int i = before; i < 6; i++) {
                x.child(9999);
                x.uncle(39, 9999);
            }
            for (int c = 0; c < 6; c++) {
                x.appoint(c, 5);
                x.appoint(c, 0);
            }
            Due.is("back", x.back(), before);
            for (int i = before; i < 6; i++) {
                Due.is("it comes again", x.child(i), i);
                Due.is("with its needs", x.told(i, 0), i);
                Due.is("with none", x.told(i, 1), -1);
                Due.is("he comes again", x.uncle(11 * i, 7 * i), i);
                Due.is("of his kind", x.told(i, 3), i);
                Due.is("with his more", x.told(i, 4), i);
                Due.is("with his marks", x.told(i, 2), 7 * i);
                Due.is("nobody has him", x.told(i, 5), 0);
            }
            Due.is("none has one", x.count(3), 0);
            Due.is("all", x.all(), 0);
            Due.is("a seventh", x.child(0), -4);
        }
    }

    private static void imageKeepsNoMore() {
        Due.by("image: AN IMAGE is kept (and nothing else is changed by it)");
        x = Wards.some();
        x.image();
        List<Long> due = Wards.seen(x);
        x = Wards.some();
        int bytes = x.count(6);
        for (int i = 0; i < 3; i++) {
            Due.is("image", x.image(), 2);
            Due.is("the tape stays", x.count(6), bytes);
            Due.is("the texts stay", x.count(4), 3);
            Due.is("the sheets stay", x.cell(3, 4, 0), -12);
        }
        Due.holds("all is as it was", Wards.seen(x).equals(due));
    }

    private static void backKeepsTheImage() {
        Due.by("back: All that it keeps is as in THE IMAGE (again and again, what has come to pass since)");
        x = Wards.of(Wards.needs(9000), 0, 9000);
        Wards.law(x, "1", "0", "1");
        x.appoint(0, 0);
        x.image();
        for (int times = 1; times < 4; times++) {
            for (int years = 0; years < times; years++) {
                x.year();
            }
            Due.is("needs", x.told(0, 0), 9000 - 1000 * times);
            Due.is("marks", x.told(0, 2), 9000 - 1000 * times);
            Due.is("back", x.back(), 1);
            Due.is("needs as they were", x.told(0, 0), 9000);
            Due.is("marks as they were", x.told(0, 2), 9000);
            Due.is("year as it was", x.count(2), 0);
        }
        x.put(0, 0, 5000);
        x.image();
        x.put(0, 0, 4000);
        x.back();
        Due.is("as in the last image", x.told(0, 0), 5000);
    }

    private static void noneFromAnyPlace() {
        Due.by("unclesBy: from a place on, two by two, n of them (0 .. 6): how many came (of none no place is looked at)");
        x = new UnclesByWard();
        x.sheet(0, 1, 3);
        int[] from = {Integer.MIN_VALUE, -1, 0, 3, 4, 40, Integer.MAX_VALUE};
        for (int place : from) {
            Due.is("none from " + place, x.unclesBy(0, 1, place, 0), 0);
        }
        x.sheet(0, 1, 0);
        Due.is("none of none", x.unclesBy(0, 1, 0, 0), 0);
        Due.is("one of none", x.unclesBy(0, 1, 0, 1), -12);
    }

    private static void tiredByNeedOfNobody() {
        Due.by("need (of tires 0); asks: of tires, too, need is the NEED here");
        x = Wards.of(Wards.needs(9876, 1234), 34, 9999);
        Wards.law(x, "1", "0", "need+2*(need=0)");
        for (int place = 0; place < 4; place++) {
            Due.is("the need here", x.asks(2, 0, place), 9 - place);
            Due.is("the need here", x.asks(2, 0, 10 + place), place + 1);
        }
        x.appoint(0, 0);
        Due.is("one has him", x.run(1, 20), 7777);
        x.appoint(1, 0);
        Due.is("each tires him", x.run(1, 20), 5555);
        Due.is("each tires him, a year", x.year(), 38);
        Due.is("each tires him, a year", x.told(0, 2), 5555);
    }

    private static void tiredByFour() {
        Due.by("A YEAR: then each MARK of his is less by what tires says (hired: by as many as have him)");
        x = Wards.of(Wards.needs(0, 0, 0, 0), 35, 9999);
        Wards.law(x, "0", "0", "3<hired");
        for (int c = 0; c < 4; c++) {
            Due.is("of " + c, x.run(1, 20), 9999);
            x.appoint(c, 0);
        }
        Due.is("of four, each", x.run(1, 20), 5555);
    }

    private static void yearsByTheYear() {
        Due.by("A YEAR: if he SUITS it by more than 0 (as it is then); at last YEAR is 1 more");
        x = Wards.of(Wards.needs(9000), 0, 9000);
        x.appoint(0, 0);
        String[] suits = {"year=0", "year=1", "year=2", "year<2", "1<year", "year"};
        int[][] due = {{8000, 8000, 8000}, {9000, 8000, 8000}, {9000, 9000, 8000}, {8000, 7000, 7000}, {9000, 9000, 8000},
            {9000, 8000, 7000}};
        for (int i = 0; i < 5; i++) {
            Wards.law(x, suits[i], "0", suits[i]);
            for (int n = 1; n < 4; n++) {
                Due.is("needs by " + suits[i], x.run(n, 10), due[i][n - 1]);
                Due.is("marks by " + suits[i], x.run(n, 20), due[i][n - 1]);
            }
        }
        x = Wards.of(Wards.needs(9000), 0, 9000);
        x.appoint(0, 0);
        Wards.law(x, suits[5], "0", "0");
        for (int n = 0; n < 3; n++) {
            Due.is("truly", x.year(), due[5][n] / 1000);
            Due.is("truly, its needs", x.told(0, 0), due[5][n]);
        }
        // In thought YEAR is above 99 at last.
        x.put(0, 2, 90);
        Wards.law(x, "99<year", "0", "year=99");
        Due.is("behind ten years", x.run(10, 10), 7000);
        Due.is("behind forty", x.run(40, 10), 0);
        Due.is("behind thirteen", x.run(13, 10), 4000);
        Due.is("one year is 99", x.run(40, 20), 8000);
    }

    private static void oddsBehindTheLastSeed() {
        Due.by("odds: SEED and each 1 more (they may pass 99999)");
        x = Wards.of(Wards.needs(1000), 0, 1000, 0, 2000, 0, 3000, 0, 4000, 0, 5000);
        for (int least = 0; least < 7; least++) {
            for (int seeds = 4; seeds < 61; seeds += 7) {
                int enough = 0;
                for (int i = 0; i < seeds; i++) {
                    long lot = (100000L + i) * 48271 % 2147483647;
                    enough += lot % 5 + 1 >= least ? 1 : 0;
                }
                int common = seeds;
                while (enough % common != 0 || seeds % common != 0) {
                    common--;
                }
                Due.is("above, least " + least, x.odds(99999, seeds, least, 0), enough / common);
                Due.is("below, least " + least, x.odds(99999, seeds, least, 1), seeds / common);
            }
        }
    }

    private static void spareOfMuchRoom() {
        Due.by("spare: The UNCLE without whom (ROOM 0) best(1) would be most");
        x = Wards.of(Wards.needs(1000, 1000, 1000, 1000), 35, 9000, 15, 5000, 30, 4000, 0, 3000);
        // Each of the dwarf's is suited by 24, the jolly one's by 15, the other dwarf's by 9, the last one's by 3.
        Due.is("with all of them", x.best(1), 4 * 24);
        Due.is("any of the others", x.spare(0), 1);
        Due.is("best without him", x.spare(1), 4 * 24);
        x = Wards.of(Wards.needs(1000, 1000, 1000, 1000), 35, 9000, 39, 9000);
        Due.is("the one who suits less", x.spare(0), 0);
        Due.is("best without him", x.spare(1), 4 * 32);
        x = Wards.of(Wards.needs(1000, 1000, 1000, 1000), 39, 9000, 35, 9000);
        Due.is("the one who suits less", x.spare(0), 1);
        Due.is("best without him", x.spare(1), 4 * 32);
        x = Wards.of(Wards.needs(1000, 1000, 1000, 1000), 35, 9000);
        Due.is("the only one", x.spare(0), 0);
        Due.is("nobody is left", x.spare(1), 0);
    }

    private static void ranksFarBelow() {
        Due.by("ranks: All UNCLES as digits (1 more than each), who SUITS the CHILD most first");
        x = Wards.of(Wards.needs(9999), 20, 9999, 9, 5555, 39, 5555, 49, 9999, 59, 1111, 19, 5555);
        Wards.law(x, "-99", "0", "0");
        // -792; -396; 18 - 297 + 5; -792 + 36; -396; 18 - 396.
        Due.is("all of them", x.ranks(0), 362541);
    }

    private static void putAsItIs() {
        Due.by("put: become v: what it was");
        x = Wards.of(Wards.needs(1234), 0, 4321);
        for (int i = 0; i < 2; i++) {
            Due.is("needs", x.put(0, 0, 1234), 1234);
            Due.is("marks", x.put(0, 1, 4321), 4321);
            Due.is("year", x.put(0, 2, 0), 0);
        }
        Due.is("the law as it is", x.force(0), 0);
        Due.is("appoint none to one that has none", x.appoint(0, -1), -1);
    }

    private static void filmedThen() {
        Due.by("film: A SHEET truly becomes how much an UNCLE SUITS all CHILDREN (as it is then)");
        x = Wards.of(Wards.needs(1000, 2000), 0, 3000, 0, 4000);
        Due.is("film", x.film(0, 0), 2);
        x.put(0, 1, 4000);
        x.put(1, 1, 3000);
        Due.is("otherwise then", x.judge(0, 0), 0);
        Due.is("as the other is then", x.whose(0), 2);
        x.child(3000);
        Due.is("of the first two", x.judge(0, 1), -1);
        Due.is("it tells of no more", x.cell(0, 2, 9), -12);
        Due.is("film again", x.film(0, 1), 3);
        Due.is("of all three", x.cell(0, 2, 8), 1);
        Due.is("the last is otherwise", x.judge(0, 1), 2);
    }

    private static void toldByYearAndLaw() {
        Due.by("kinds, marks, when, laws: by which, were they his, that would be -1 (YEAR, THE LAW, all others as they are)");
        x = Wards.of(Wards.needs(1000, 3000), 3, 2000, 23, 2000);
        Wards.law(x, "year*mark*need", "0", "0");
        Wards.law(x, "(year+1)*mark*need", "0", "0");
        x.force(1);
        x.put(0, 2, 7);
        for (int u = 0; u < 2; u++) {
            // By an UNCLE 14, 42, and as much by an AUNT; a SAD one has half, an ORPHAN more where both are 0.
            int part = u == 0 ? 1 : 2;
            x.film(0, u);
            Wards.sheet(x, 1, 2, 14 / part, 42 / part);
            Due.is("as it is", x.judge(1, u), -1);
            Due.is("kinds", x.kinds(1, u, 0), u == 0 ? 33 : 4);
            Due.is("mores", x.kinds(1, u, 1), 1023);
            Due.is("marks", x.marks(1, u, 0), 1 << 2);
            Due.is("when, how many", x.when(1, u, 0), 1);
            Due.is("when, the first", x.when(1, u, 1), 7);
            Due.is("laws", x.laws(1, u), 2);
            x.put(0, 2, 6);
            Due.is("a year ahead, of that year", x.judge(1, u), 0);
            Due.is("kinds then", x.kinds(1, u, 0), 0);
            Due.is("mores then", x.kinds(1, u, 1), 0);
            Due.is("marks then", x.marks(1, u, 0), 0);
            Due.is("when then", x.when(1, u, 1), 7);
            Due.is("laws then", x.laws(1, u), 4);
            x.force(2);
            Due.is("by the other law", x.judge(1, u), -1);
            Due.is("marks by the other law", x.marks(1, u, 0), 1 << 2);
            Due.is("when by the other law", x.when(1, u, 1), 6);
            x.force(1);
            x.put(0, 2, 7);
            Due.is("as it was", x.judge(0, u), -1);
        }
    }

    private static void sixOfThem() {
        Due.by("hired, more: of whatever KIND; spare: of like ones the first; LISTS by a SEED");
        x = Wards.of(Wards.needs(0), 1, 0, 12, 0, 23, 0, 34, 0, 45, 0, 56, 0);
        Wards.law(x, "more", "more", "more");
        for (int u = 0; u < 6; u++) {
            for (int part = 0; part < 3; part++) {
                Due.is("more of " + u, x.asks(part, u, 0), u + 1);
            }
        }
        x = Wards.of(Wards.needs(0), 0, 0, 0, 0, 0, 0, 0, 0, 0, 0, 0, 0);
        Due.is("all alike", x.spare(0), 0);
        Due.is("all alike", x.spare(1), 0);
        for (int seed = 0; seed < 30; seed++) {
            Due.is("one of six", x.drawn(seed, 1), (seed + 1) * 48271 % 6 + 1);
        }
    }

    private static void yearOfWhomItHas() {
        Due.by("A YEAR: of those that have an UNCLE: if he (whom it has) SUITS it by more than 0; each MARK of his");
        x = Wards.of(Wards.needs(9000, 9000, 9000), 0, 0, 0, 9000, 0, 5);
        Wards.law(x, "mark*need", "0", "1");
        x.appoint(0, 1);
        x.appoint(1, 2);
        x.appoint(2, 0);
        Due.is("by whom the first has", x.run(1, 10), 8000);
        Due.is("by whom the second has", x.run(1, 11), 9000);
        Due.is("by whom the third has", x.run(1, 12), 9000);
        Due.is("the first one's marks", x.run(1, 20), 0);
        Due.is("the second one's marks", x.run(1, 21), 8000);
        Due.is("the third one's marks", x.run(1, 22), 4);
        x.put(0, 1, 1000);
        Due.is("by whom the third has then", x.run(1, 12), 8000);
        Due.is("truly", x.year(), 25);
        Due.is("truly, the first", x.told(0, 0), 8000);
        Due.is("truly, the second", x.told(1, 0), 9000);
        Due.is("truly, the third", x.told(2, 0), 8000);
    }

    private static void settledOfTheLastUncle() {
        Due.by("he lets go of those the one he LIKES least, of like ones the greatest number");
        int[] ofLikeOnes = {100000, 110000, 111000, 111100};
        int[] more = {0, 15, 30, 35};
        for (int u = 0; u < 6; u++) {
            for (int i = 0; i < more.length; i++) {
                x = Wards.of(Wards.needs(1000, 1000, 1000, 1000, 1000, 1000));
                for (int v = 0; v < 6; v++) {
                    x.uncle(v == u ? more[i] : 0, v == u ? 9999 : 0);
                }
                Wards.law(x, "mark", "5", "0");
                Due.is("all like him, he likes all alike: " + u, x.settled(0), ofLikeOnes[i] * (u + 1));
            }
        }
        // 2 takes uncle 1 from 0, which asks uncle 0 then, who keeps 1 and likes both alike.
        x = Wards.of(Wards.needs(5000, 500, 1000), 0, 8900, 0, 9000);
        Due.is("the one that asks the first uncle has the lesser number", x.settled(0), 102);
        x.put(0, 0, 5001);
        Due.is("he likes it by 1 less", x.settled(0), 12);
    }
}
