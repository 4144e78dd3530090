/** The boundaries of promises 10 to 13: length, wish, rank, cut. */
final class ListBounds extends Bounds {
    private ListBounds() {
    }

    static void all() {
        lengths();
        wishes();
        ranks();
        cuts();
    }

    /** Ten of each side, the one with the number k having the first k others on its list. */
    private static StablepairBureau steps() {
        StablepairBureau x = of(10, 10, 10);
        for (int who = 0; who < 10; who++) {
            for (char side : SIDES) {
                Check.read(x, side, who, first(who));
            }
        }
        return x;
    }

    private static String first(int many) {
        StringBuilder list = new StringBuilder();
        for (int other = 0; other < many; other++) {
            list.append(other == 0 ? "" : ">").append(other);
        }
        return list.toString();
    }

    private static void lengths() {
        Doc.says(10, "Returns how many are on a list", "Returns how many", SIDE, LIST_OF);
        StablepairBureau x = steps();
        for (char side : SIDES) {
            for (int who = 0; who < 10; who++) {
                Check.due("length " + side + who, who, x.length(side, who));
            }
        }
        Check.read(x, 'p', 3, first(10));
        Check.due("of ten", 10, x.length('p', 3));
        Doc.says(10, NO_SIDE);
        noSide(Twin::busy, (y, side) -> y.length(side, 0));
        noSide(Twin::busy, (y, side) -> y.length(side, 99));
        Doc.says(10, NO_ONE);
        noOne(StablepairBureau::length);
    }

    private static void wishes() {
        Doc.says(11, "Returns who stands on a list at a place", "Returns the number", SIDE, LIST_OF,
                "`place`: the place, from 0");
        StablepairBureau x = of(10, 10, 10);
        for (char side : SIDES) {
            Check.read(x, side, 9, "8>0>7>1");
            int[] list = {8, 0, 7, 1};
            for (int place = 0; place < 4; place++) {
                Check.due("wish " + side + place, list[place], x.wish(side, 9, place));
            }
        }
        Doc.says(11, NO_SIDE);
        noSide(Twin::busy, (y, side) -> y.wish(side, 0, 0));
        noSide(Twin::busy, (y, side) -> y.wish(side, 99, 99));
        Doc.says(11, NO_ONE);
        noOne((y, side, who) -> y.wish(side, who, 0));
        noOne((y, side, who) -> y.wish(side, who, -1));
        Doc.says(11, "Throws `IndexOutOfBoundsException` if there is no such place");
        for (char side : SIDES) {
            for (int who : new int[] {0, 1, 5, 9}) {
                indices("place of " + side + who, INDEX, ListBounds::steps, who, (y, place) -> y.wish(side, who, place));
            }
        }
        Twin.Maker all = () -> {
            StablepairBureau y = steps();
            Check.read(y, 'h', 0, first(10));
            return y;
        };
        indices("place of ten", INDEX, all, 10, (y, place) -> y.wish('h', 0, place));
        StablepairBureau cut = steps();
        cut.cut('p', 9, 3);
        Check.due("the last one that stays", 2, cut.wish('p', 9, 2));
        Check.thrown("the first one that went", INDEX, cut, () -> cut.wish('p', 9, 3));
    }

    private static void ranks() {
        Doc.says(12, "Returns at which place of a list one stands", SIDE, LIST_OF, "`other`: the one that is looked for",
                "Returns the place, from 0, or -1");
        for (char side : SIDES) {
            StablepairBureau x = steps();
            for (int who = 0; who < 10; who++) {
                for (int other = 0; other < 10; other++) {
                    Check.due("rank " + side + who + other, other < who ? other : -1, x.rank(side, who, other));
                }
            }
            for (int other : absent(10)) {
                Check.quiet("rank of nobody " + other, -1, x, () -> x.rank(side, 9, other));
            }
            Check.read(x, side, 9, "8>0");
            Check.due("the first", 0, x.rank(side, 9, 8));
            Check.due("the last", 1, x.rank(side, 9, 0));
            x.cut(side, 9, 1);
            Check.due("one that went", -1, x.rank(side, 9, 0));
        }
        Doc.says(12, NO_SIDE);
        noSide(Twin::busy, (y, side) -> y.rank(side, 0, 0));
        noSide(Twin::busy, (y, side) -> y.rank(side, 99, 99));
        Doc.says(12, NO_ONE);
        noOne((y, side, who) -> y.rank(side, who, 0));
        noOne((y, side, who) -> y.rank(side, who, 99));
    }

    private static void cuts() {
        Doc.says(13, "Cuts a list off behind its first ones", "Returns how many went", SIDE, LIST_OF,
                "`length`: how many stay, 0 to as many as there are");
        for (char side : SIDES) {
            for (int who : new int[] {0, 1, 5, 9}) {
                for (int stay = 0; stay <= who; stay++) {
                    StablepairBureau x = steps();
                    Check.due("cut " + side + who + " to " + stay, who - stay, x.cut(side, who, stay));
                    Check.due("the first ones stay", first(stay), Check.list(x, side, who));
                    Check.due("another one", first(4), Check.list(x, side, 4));
                    Check.due("cut again", 0, x.cut(side, who, stay));
                }
            }
        }
        StablepairBureau whole = of(1, 10, 0);
        Check.read(whole, 'p', 0, first(10));
        Check.due("none of ten", 0, whole.cut('p', 0, 10));
        Check.due("one of ten", 1, whole.cut('p', 0, 9));
        Check.due("all nine", 9, whole.cut('p', 0, 0));
        Doc.says(13, "all pairs are let go");
        letsGo("a cut", x -> x.cut('p', 0, 1));
        letsGo("a cut of nothing", x -> x.cut('h', 0, 2));
        letsGo("a cut of an empty list", x -> x.cut('m', 0, 0));
        Doc.says(13, NO_SIDE);
        noSide(Twin::busy, (y, side) -> y.cut(side, 0, 0));
        noSide(Twin::busy, (y, side) -> y.cut(side, 99, 99));
        Doc.says(13, NO_ONE);
        noOne((y, side, who) -> y.cut(side, who, 0));
        noOne((y, side, who) -> y.cut(side, who, -1));
        Doc.says(13, "Throws `IndexOutOfBoundsException` if the length is out of range");
        for (char side : SIDES) {
            for (int who = 0; who < Twin.busy().many(side); who++) {
                int one = who;
                int size = Twin.busy().length(side, who);
                for (int length : absent(size + 1)) {
                    Twin.refused("cut to " + length, INDEX, Twin::busy, y -> y.cut(side, one, length));
                }
            }
        }
    }
}
