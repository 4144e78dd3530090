/** The boundaries of the term "Sides" and of promises 1 to 5: a new object, add, many, places, least. */
final class SideBounds extends Bounds {
    private SideBounds() {
    }

    static void all() {
        newObject();
        tenOfEach();
        lists();
        placesAndLeastNumber();
        adding();
        counting();
        places();
        least();
    }

    private static void newObject() {
        Doc.says(1, "Creates a bureau without persons, houses and mates, with an empty text");
        for (char side : SIDES) {
            Check.due("many " + side, 0, new StablepairBureau().many(side));
            Twin.refused("length " + side, ABSENT, StablepairBureau::new, x -> x.length(side, 0));
        }
        Check.due("no signs", 0, new StablepairBureau().erase());
        Twin.refused("no first sign", INDEX, StablepairBureau::new, x -> x.signAt(0));
        Twin.refused("no person", ABSENT, StablepairBureau::new, x -> x.houseOf(0));
        Twin.refused("no house", ABSENT, StablepairBureau::new, x -> x.held(0));
        Twin.refused("no mate", ABSENT, StablepairBureau::new, x -> x.roomOf(0));
        StablepairBureau used = Twin.busy();
        Check.due("another object has its own ones", 0, new StablepairBureau().many('p'));
        Check.due("and leaves those of the first", 4, used.many('p'));
    }

    private static void tenOfEach() {
        Doc.terms("There are persons, houses and mates, at most ten of each, numbered from 0 as they come");
        StablepairBureau x = new StablepairBureau();
        for (int number = 0; number < 10; number++) {
            for (char side : SIDES) {
                Check.due("number on side " + side, number, x.add(side));
            }
        }
        for (char side : SIDES) {
            Check.due("ten", 10, x.many(side));
            Check.thrown("an eleventh", STATE, x, () -> x.add(side));
        }
    }

    private static void lists() {
        Doc.terms("Each one has a list, empty at first: of a person the houses with which it would be paired, of a house "
                + "the persons, of a mate other mates, the one that it likes best first");
        StablepairBureau x = of(10, 10, 10);
        for (char side : SIDES) {
            for (int who = 0; who < 10; who++) {
                int one = who;
                Check.due("length at first", 0, x.length(side, who));
                Check.thrown("wish at first", INDEX, x, () -> x.wish(side, one, 0));
            }
        }
        StablepairBureau y = of(1, 3, 2);
        Check.due("a person lists houses, more than there are persons", 2, Check.read(y, 'p', 0, "2>1"));
        Check.due("the one that it likes best first", 2, y.wish('p', 0, 0));
        Check.due("a house lists persons, not houses", -1, Check.read(y, 'h', 0, "1"));
        Check.due("a house lists persons", 1, Check.read(y, 'h', 2, "0"));
        Check.due("a mate lists mates", 1, Check.read(y, 'm', 0, "1"));
        Check.due("a mate lists no houses", -1, Check.read(y, 'm', 0, "2"));

        Doc.terms("with those who are not on it one is never paired");
        StablepairBureau w = Check.bureau("0 1 - 2", "0>1>2 0 - -");
        Check.due("offers of persons", 3, w.run('p'));
        Check.due("only on both lists", "0 -1 -1 -1", Check.homes(w));
        Check.due("offers of houses", 2, w.run('h'));
        Check.due("only on both lists", "0 -1 -1 -1", Check.homes(w));
        Check.due("one stable pairing", 1, w.stables());
        Twin.refused("not on that of the house", ARGUMENT, () -> Check.bureau("0 0", "0"), v -> v.pair(1, 0));
        Twin.refused("not on that of the person", ARGUMENT, () -> Check.bureau("0 -", "0>1"), v -> v.pair(1, 0));
        Check.due("mates, on one list alone", -1, Check.mates("1 -").roomOf(0));
        Check.due("mates, on both", 1, Check.mates("1 0").roomOf(0));

        Doc.terms("A place on a list is told from 0");
        StablepairBureau v = Check.bureau("1>0 -", "0 0");
        Check.due("the first place", 0, v.rank('p', 0, 1));
        Check.due("the second place", 1, v.rank('p', 0, 0));
        Check.due("at the place 0", 1, v.wish('p', 0, 0));
        Check.due("at the place 1", 0, v.wish('p', 0, 1));
        Doc.terms("ahead means at a lesser place");
        v.run('p');
        Check.due("the one that is ahead", 1, v.houseOf(0));
        v.part(0);
        v.pair(0, 0);
        Check.due("the one that is ahead blocks", "1", Check.blocking(v));
    }

    private static void placesAndLeastNumber() {
        Doc.terms("A house has places, 1 at first, and a least number, 0 at first, which is of no meaning but for lacks()");
        for (int house = 0; house < 10; house++) {
            Check.due("places at first", 1, of(0, 10, 0).places(house, 1));
            Check.due("least at first", 0, of(0, 10, 0).least(house, 0));
        }
        for (int number = 0; number <= 4; number++) {
            StablepairBureau x = Check.bureau("0>1 0>1 1", "1>0 0>1>2");
            x.least(0, number);
            x.least(1, 4 - number);
            x.run('p');
            Check.due("pairs at the least number " + number, "1 0 -1", Check.homes(x));
            Check.due("offers", "0h 10x 1h 21r", Check.offersMade(x));
            Check.due("a house is filled the same", 1, x.filled(0));
            Check.due("one is stable", 1, x.stables());
            Check.thrown("a house is full at its places", CANNOT, x, () -> x.pair(0, 0));
            Check.due("but it lacks as many", Math.max(0, number - 1), x.lacks(0));
        }
    }

    private static void adding() {
        Doc.says(2, "Adds one to a side", "Returns its number", SIDE);
        for (char side : SIDES) {
            StablepairBureau x = Twin.busy();
            int before = x.many(side);
            Check.due("number", before, x.add(side));
            for (char other : SIDES) {
                Check.due("no other side", Twin.busy().many(other) + (other == side ? 1 : 0), x.many(other));
                Check.due("lists stay", Check.list(Twin.busy(), other, 0), Check.list(x, other, 0));
            }
            Check.due("its list", 0, x.length(side, before));
            Check.due("the text stays", 3, x.erase());
        }
        Doc.says(2, "all pairs are let go");
        for (char side : SIDES) {
            letsGo("add " + side, x -> x.add(side));
        }
        Doc.says(2, NO_SIDE);
        noSide(Twin::busy, StablepairBureau::add);
        noSide(() -> of(10, 10, 10), StablepairBureau::add);
        Doc.says(2, "Throws `IllegalStateException` if there are ten of them");
        for (char side : SIDES) {
            Check.due("a tenth", 9, of(9, 9, 9).add(side));
            Twin.refused("an eleventh", STATE, () -> tenPaired(side), x -> x.add(side));
            for (char other : SIDES) {
                Check.due("another side", other == side ? STATE : 2, Twin.answer(tenOf(side), x -> x.add(other)));
            }
        }
    }

    private static StablepairBureau tenOf(char side) {
        return of(side == 'p' ? 10 : 2, side == 'h' ? 10 : 2, side == 'm' ? 10 : 2);
    }

    private static StablepairBureau tenPaired(char side) {
        StablepairBureau x = tenOf(side);
        Check.read(x, 'p', 0, "1>0");
        Check.read(x, 'p', 1, "1");
        Check.read(x, 'h', 1, "1>0");
        x.begin('p');
        x.offer(0);
        return x;
    }

    private static void counting() {
        Doc.says(3, "Returns how many a side has", "Returns how many", SIDE);
        for (int count = 0; count <= 10; count++) {
            StablepairBureau x = of(count, 10 - count, count / 2);
            Check.quiet("persons", count, x, () -> x.many('p'));
            Check.quiet("houses", 10 - count, x, () -> x.many('h'));
            Check.quiet("mates", count / 2, x, () -> x.many('m'));
        }
        Doc.says(3, NO_SIDE);
        noSide(Twin::busy, StablepairBureau::many);
    }

    private static void places() {
        Doc.says(4, "Sets how many places a house has", HOUSE, "`places`: 1 to 4", "Returns how many before");
        for (int number = 1; number <= 4; number++) {
            StablepairBureau x = Check.bureau("0 0 0 0 0", "4>3>2>1>0 -");
            Check.due("before", 1, x.places(0, number));
            for (int person = 0; person < number; person++) {
                Check.due("place for one", person + 1, x.pair(person, 0));
            }
            int next = number;
            Check.thrown("no place for the next one", CANNOT, x, () -> x.pair(next, 0));
            Check.due("those of another house", 1, x.places(1, number));
            Check.due("before, then", number, x.places(0, 1));
            Check.due("and then", 1, x.places(0, number));
        }
        Doc.says(4, "all pairs are let go");
        letsGo("other places", x -> x.places(0, 2));
        letsGo("the same places", x -> x.places(1, 1));
        Doc.says(4, NO_HOUSE);
        noHouse((x, house) -> x.places(house, 1));
        noHouse((x, house) -> x.places(house, 0));
        noHouse((x, house) -> x.places(house, 5));
        Check.due("of the last one", 1, of(0, 10, 0).places(9, 4));
        Doc.says(4, "Throws `IllegalArgumentException` if the number is out of range");
        for (int number : new int[] {0, 5, -1, -4, 6, 10, 257, Integer.MIN_VALUE, Integer.MIN_VALUE + 1,
            Integer.MAX_VALUE}) {
            Twin.refused("places " + number, ARGUMENT, Twin::busy, x -> x.places(1, number));
        }
    }

    private static void least() {
        Doc.says(5, "Sets how many a house needs at least", HOUSE, "`number`: 0 to 4", "Returns how many before");
        for (int number = 0; number <= 4; number++) {
            StablepairBureau x = of(0, 2, 0);
            Check.due("before", 0, x.least(0, number));
            Check.due("an empty house lacks all", number, x.lacks(0));
            Check.due("another house lacks none", 0, x.lacks(1));
            Check.due("before, then", number, x.least(0, 4 - number));
            Check.due("and then", 4 - number, x.least(0, 0));
        }
        StablepairBureau y = paired();
        y.least(0, 4);
        Check.due("no pair is let go", "0 1", Check.homes(y));
        Check.due("offers go on", "open 0", Check.canOffer(y));
        Doc.says(5, NO_HOUSE);
        noHouse((x, house) -> x.least(house, 0));
        noHouse((x, house) -> x.least(house, -1));
        noHouse((x, house) -> x.least(house, 5));
        Check.due("of the last one", 0, of(0, 10, 0).least(9, 4));
        Doc.says(5, "Throws `IllegalArgumentException` if the number is out of range");
        for (int number : new int[] {-1, 5, 6, 10, 256, Integer.MIN_VALUE, Integer.MIN_VALUE + 4, Integer.MAX_VALUE}) {
            Twin.refused("least " + number, ARGUMENT, Twin::busy, x -> x.least(1, number));
        }
    }
}
