/** An UNCLE, each KIND a class of its own. */
class PlainUncle {
    int more;
    int[] marks;

    static PlainUncle of(int kind, int more, int[] marks) {
        PlainUncle uncle = kind == 0 ? new PlainUncle() : kind == 1 ? new Jolly() : kind == 2 ? new Sad()
            : kind == 3 ? new Dwarf() : kind == 4 ? new Orphan() : new Aunt();
        uncle.more = more;
        uncle.marks = marks.clone();
        return uncle;
    }

    int kind() {
        return 0;
    }

    int room(int year) {
        return 1;
    }

    int suits(int said, int place, int need) {
        return said;
    }

    int likes(int said, int needs) {
        return said;
    }

    static class Jolly extends PlainUncle {
        @Override
        int kind() {
            return 1;
        }

        @Override
        int room(int year) {
            return super.room(year) + more / 5;
        }

        @Override
        int suits(int said, int place, int need) {
            return super.suits(said, place, need) + (place == 0 ? more + more : 0);
        }
    }

    static class Sad extends PlainUncle {
        @Override
        int kind() {
            return 2;
        }

        @Override
        int suits(int said, int place, int need) {
            int as = super.suits(said, place, need);
            return need >= 7 ? as + as : as / 2;
        }

        @Override
        int likes(int said, int needs) {
            return super.likes(said, needs) + needs;
        }
    }

    static class Dwarf extends Jolly {
        @Override
        int kind() {
            return 3;
        }

        @Override
        int room(int year) {
            return super.room(year) + 2;
        }

        @Override
        int suits(int said, int place, int need) {
            return place == 3 ? 5 : super.suits(said, place, need);
        }
    }

    static class Orphan extends Sad {
        @Override
        int kind() {
            return 4;
        }

        @Override
        int suits(int said, int place, int need) {
            return super.suits(said, place, need) + (marks[place] == need ? more : 0);
        }

        @Override
        int likes(int said, int needs) {
            return 0 - super.likes(said, needs);
        }
    }

    static class Aunt extends PlainUncle {
        @Override
        int kind() {
            return 5;
        }

        @Override
        int room(int year) {
            return year % 10 == more ? 0 : super.room(year);
        }

        @Override
        int likes(int said, int needs) {
            return needs > 20 ? 0 : super.likes(said, needs);
        }
    }
}
