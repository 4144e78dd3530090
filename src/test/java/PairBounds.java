/** The boundaries of the term "Pairs" and of promises 21 to 30: pair to lacks. */
final class PairBounds extends Bounds {
    private PairBounds() {
    }

    static void all() {
        housesAndPersons();
        blockingPairs();
        pairing();
        pairRefusals();
        parting();
        asking();
        holding();
        blocks();
        stability();
        filled();
        lacks();
    }

    /** Five persons who list the house 0 alone, which lists them backwards; one more house, without a list. */
    private static StablepairBureau five(int places, int held) {
        StablepairBureau x = Check.bureau("0 0 0 0 0", "4>3>2>1>0 -");
        x.places(0, places);
        for (int person = 0; person < held; person++) {
            x.pair(person, 0);
        }
        return x;
    }

    private static void housesAndPersons() {
        Doc.terms("Each person is paired with a house, or alone");
        StablepairBureau x = Check.bureau("0>1 0", "0>1 0");
        x.pair(0, 0);
        x.pair(0, 1);
        Check.due("one house at a time", "1 -1", Check.homes(x));
        Check.due("the first is let go", 0, x.held(0));
        Doc.terms("a house holds the persons that are paired with it, at most as many as it has places");
        for (int places = 1; places <= 4; places++) {
            for (int held = 0; held <= places; held++) {
                Check.due("held", held, five(places, held).held(0));
            }
            int full = places;
            Twin.refused("one more", CANNOT, () -> five(full, full), y -> y.pair(full, 0));
            StablepairBureau z = five(places, 0);
            z.run('p');
            Check.due("by offers of persons", places, z.held(0));
            z.run('h');
            Check.due("by offers of houses", places, z.held(0));
        }
        Doc.terms("At first all are alone");
        StablepairBureau w = of(10, 10, 10);
        for (int k = 0; k < 10; k++) {
            Check.due("a person at first", -1, w.houseOf(k));
            Check.due("a house at first", 0, w.held(k));
        }
        StablepairBureau later = paired();
        Check.due("one who comes later", -1, later.houseOf(later.add('p')));
        Check.due("a house that comes later", 0, later.held(later.add('h')));
        Doc.terms("Letting all pairs go makes all alone, and no offers have begun then");
        letsGo("add", v -> v.add('h'));
        letsGo("places", v -> v.places(1, 4));
        letsGo("read", v -> v.read('h', 1));
        letsGo("cut", v -> v.cut('h', 1, 1));
    }

    private static void blockingPairs() {
        Doc.terms("A pair of a person and a house blocks a pairing if they are not paired, each is on the list of the other, "
                + "the person is alone or its house is behind that one on its list, and the house is not full or holds "
                + "one that is behind that person on its list");
        StablepairBureau own = Check.bureau("0", "0");
        Check.due("not paired", "0", Check.blocking(own));
        own.pair(0, 0);
        Check.due("paired", "", Check.blocking(own));
        Check.due("not on the person's list", "", Check.blocking(Check.bureau("-", "0")));
        Check.due("not on the house's list", "", Check.blocking(Check.bureau("0", "-")));
        StablepairBureau person = Check.bureau("0>1>2", "0 0 0");
        Check.due("a person alone", "0 1 2", Check.blocking(person));
        person.pair(0, 1);
        Check.due("its house behind one, ahead of another one", "0", Check.blocking(person));
        person.pair(0, 2);
        Check.due("its house behind both", "0 1", Check.blocking(person));
        person.pair(0, 0);
        Check.due("its house ahead of both", "", Check.blocking(person));
        for (int places = 1; places <= 4; places++) {
            StablepairBureau x = five(places, places - 1);
            StringBuilder room = new StringBuilder();
            for (int alone = places - 1; alone < 5; alone++) {
                room.append(room.length() == 0 ? "" : " ").append(10 * alone);
            }
            Check.due("one place is left", room.toString(), Check.blocking(x));
            x.pair(4, 0);
            String ahead = Check.blocking(x);
            Check.due("full: those ahead of the last one", places == 1 ? "" : room.substring(0, room.length() - 3), ahead);
        }
        StablepairBureau two = Check.bureau("0 0 0 0", "3>1>2>0");
        two.places(0, 2);
        two.pair(1, 0);
        two.pair(2, 0);
        Check.due("ahead of both; not the one behind both", "30", Check.blocking(two));
        two.part(2);
        two.pair(0, 0);
        Check.due("ahead of one of both", "20 30", Check.blocking(two));
    }

    private static void pairing() {
        Doc.says(21, "Pairs a person with a house, and no longer with another one", "Returns how many the house holds then",
                PERSON, HOUSE);
        for (int places = 1; places <= 4; places++) {
            StablepairBureau x = five(places, 0);
            for (int person = 0; person < places; person++) {
                Check.due("pair", person + 1, x.pair(4 - person, 0));
                Check.due("its house", 0, x.houseOf(4 - person));
            }
        }
        StablepairBureau y = Check.bureau("0>9 - - - - - - - - 9", "0 - - - - - - - - 0>9");
        Check.due("the first of both", 1, y.pair(0, 0));
        Check.due("with another one", 1, y.pair(0, 9));
        Check.due("no longer with the first", "9 0", y.houseOf(0) + " " + y.held(0));
        Check.due("and back", 1, y.pair(0, 0));
        Check.due("the last of both", 1, y.pair(9, 9));
        Doc.says(21, "no offers have begun then");
        endsOffers("pair", Twin::busy, x -> x.pair(0, 2));
        endsOffers("pair with another one", Twin::busy, x -> x.pair(3, 1));
    }

    private static void pairRefusals() {
        Doc.says(21, "Throws `NoSuchElementException` if there is no such person, or no such house");
        noPerson((x, person) -> x.pair(person, 0));
        noPerson((x, person) -> x.pair(person, -1));
        noHouse((x, house) -> x.pair(0, house));
        noHouse((x, house) -> x.pair(99, house));
        Twin.refused("persons, but no house", ABSENT, () -> of(2, 0, 2), x -> x.pair(0, 0));
        Doc.says(21, "Throws `IllegalArgumentException` if one is not on the list of the other");
        Twin.refused("on none", ARGUMENT, () -> of(1, 1, 0), x -> x.pair(0, 0));
        Twin.refused("on that of the house alone", ARGUMENT, () -> Check.bureau("-", "0"), x -> x.pair(0, 0));
        Twin.refused("on that of the person alone", ARGUMENT, () -> Check.bureau("0", "-"), x -> x.pair(0, 0));
        Twin.refused("and the house is full", ARGUMENT, () -> fullFor("0 0", "0"), x -> x.pair(1, 0));
        Twin.refused("and the house is full", ARGUMENT, () -> fullFor("0 -", "0>1"), x -> x.pair(1, 0));
        Doc.says(21, "Throws `UnsupportedOperationException` if they are paired, or the house is full");
        Twin.refused("paired, the house full", CANNOT, () -> five(1, 1), x -> x.pair(0, 0));
        Twin.refused("paired, the house not full", CANNOT, () -> five(2, 1), x -> x.pair(0, 0));
        Twin.refused("paired by offers", CANNOT, Twin::busy, x -> x.pair(3, 0));
        Twin.refused("full, though ahead of those whom it holds", CANNOT, () -> five(2, 2), x -> x.pair(4, 0));
        Twin.refused("full by offers", CANNOT, Twin::busy, x -> x.pair(0, 0));
        StablepairBureau parted = five(1, 1);
        parted.part(0);
        Check.due("no longer full", 1, parted.pair(4, 0));
        parted.part(4);
        Check.due("no longer paired", 1, parted.pair(4, 0));
    }

    private static StablepairBureau fullFor(String persons, String houses) {
        StablepairBureau x = Check.bureau(persons, houses);
        x.pair(0, 0);
        return x;
    }

    private static void parting() {
        Doc.says(22, "Lets the pair of a person go", "Returns the house, -1 if there was none", PERSON);
        StablepairBureau x = five(3, 3);
        Check.due("part", 0, x.part(1));
        Check.due("alone", "0 -1 0 -1 -1", Check.homes(x));
        Check.due("the others stay", "2 0", Check.heldBy(x, 0));
        Check.due("part of one who is alone", -1, x.part(1));
        Check.due("part of one who never had one", -1, x.part(4));
        Check.due("the others stay", "2 0", Check.heldBy(x, 0));
        Check.due("part", 0, x.part(0));
        Check.due("part of the last one", 0, x.part(2));
        Check.due("an empty house", 0, x.held(0));
        Check.due("of a house of a high number", 9, tenth().part(9));
        Doc.says(22, "no offers have begun then");
        endsOffers("part", Twin::busy, y -> y.part(3));
        endsOffers("part of one who is alone", Twin::busy, y -> y.part(2));
        Doc.says(22, NO_PERSON);
        noPerson(StablepairBureau::part);
    }

    /** The person 9 is paired with the house 9, and nobody else is. */
    private static StablepairBureau tenth() {
        StablepairBureau x = Check.bureau("- - - - - - - - - 9", "- - - - - - - - - 9");
        x.pair(9, 9);
        return x;
    }

    private static void asking() {
        Doc.says(23, "Returns the house of a person", "Returns the house, or -1", PERSON);
        StablepairBureau x = tenth();
        for (int person = 0; person < 10; person++) {
            int one = person;
            Check.quiet("house of " + person, person == 9 ? 9 : -1, x, () -> x.houseOf(one));
        }
        StablepairBureau y = five(1, 1);
        Check.due("the house 0", 0, y.houseOf(0));
        Doc.says(23, NO_PERSON);
        noPerson(StablepairBureau::houseOf);
    }

    private static void holding() {
        Doc.says(24, "Returns how many a house holds", "Returns how many", HOUSE);
        for (int held = 0; held <= 4; held++) {
            StablepairBureau x = five(4, held);
            Check.quiet("held", held, x, () -> x.held(0));
            Check.quiet("held by another one", 0, x, () -> x.held(1));
        }
        Check.due("held by the last one", 1, tenth().held(9));
        Doc.says(24, NO_HOUSE);
        noHouse(StablepairBureau::held);
        Doc.says(25, "Returns one whom a house holds, in the order of its list", "Returns the person", HOUSE,
                "`place`: from 0");
        StablepairBureau y = five(4, 3);
        Check.due("in the order of its list", "2 1 0", Check.heldBy(y, 0));
        y.part(1);
        Check.due("without one in the midst", "2 0", Check.heldBy(y, 0));
        y.pair(4, 0);
        y.pair(3, 0);
        Check.due("with others ahead", "4 3 2 0", Check.heldBy(y, 0));
        Check.due("the last person", 9, tenth().heldAt(9, 0));
        Doc.says(25, NO_HOUSE);
        noHouse((x, house) -> x.heldAt(house, 0));
        noHouse((x, house) -> x.heldAt(house, -1));
        Doc.says(25, "Throws `IndexOutOfBoundsException` if there is no such place");
        for (int held = 0; held <= 4; held++) {
            int count = held;
            indices("one of " + held, INDEX, () -> five(4, count), held, (x, place) -> x.heldAt(0, place));
        }
        indices("one of a house without a list", INDEX, () -> five(4, 4), 0, (x, place) -> x.heldAt(1, place));
    }

    private static void blocks() {
        Doc.says(26, "Returns how many pairs block the pairing", "Returns how many");
        Check.due("of none", 0, new StablepairBureau().blocks());
        Check.due("without lists", 0, of(10, 10, 10).blocks());
        for (int held = 0; held <= 4; held++) {
            StablepairBureau x = five(4, held);
            Check.quiet("those who are alone", 5 - held, x, x::blocks);
        }
        StablepairBureau all = allOnAll();
        Check.quiet("the most", 100, all, all::blocks);
        all.run('p');
        Check.quiet("none", 0, all, all::blocks);
        Doc.says(27, "Returns a pair that blocks, by persons, then houses", "Returns 10 times the person, plus the house",
                "`index`: from 0");
        StablepairBureau x = allOnAll();
        for (int index = 0; index < 100; index++) {
            Check.due("block", index, x.blockAt(index));
        }
        StablepairBureau y = Check.bureau("9>3 - - - - - - - - 0>9", "9 - - 0 - - - - - 9>0");
        Check.due("not by lists", "3 9 90 99", Check.blocking(y));
        Doc.says(27, "Throws `IndexOutOfBoundsException` if there is none");
        indices("block of none", INDEX, StablepairBureau::new, 0, StablepairBureau::blockAt);
        indices("block of five", INDEX, () -> five(2, 0), 5, StablepairBureau::blockAt);
        indices("block of three", INDEX, () -> five(2, 2), 3, StablepairBureau::blockAt);
        indices("block of a hundred", INDEX, PairBounds::allOnAll, 100, StablepairBureau::blockAt);
        indices("block of a stable one", INDEX, Bounds::paired, 0, StablepairBureau::blockAt);
    }

    private static StablepairBureau allOnAll() {
        String ten = ("0=1=2=3=4=5=6=7=8=9 ").repeat(10).trim();
        return Check.bureau(ten, ten);
    }

    private static void stability() {
        Doc.terms("A pairing is stable if no pair blocks it");
        for (int held = 0; held <= 2; held++) {
            StablepairBureau x = five(2, held);
            Check.due("some block", false, x.isStable());
        }
        StablepairBureau x = five(2, 0);
        x.pair(4, 0);
        Check.due("four block", "4 false", x.blocks() + " " + x.isStable());
        x.pair(2, 0);
        Check.due("one blocks", "1 false", x.blocks() + " " + x.isStable());
        x.part(2);
        x.pair(3, 0);
        Check.due("none blocks", "0 true", x.blocks() + " " + x.isStable());
        Doc.says(28, "Tells whether the pairing is stable", "Returns whether it is");
        Check.due("a new object", true, new StablepairBureau().isStable());
        Check.due("nobody on both lists", true, of(10, 10, 10).isStable());
        Check.due("one pair alone blocks, the last of all", false, lastBlocks().isStable());
        Check.due("one pair alone blocks, the first of all", false, Check.bureau("0", "0").isStable());
        Check.quiet("stable", true, x, x::isStable);
        StablepairBureau y = five(1, 1);
        Check.quiet("not stable", false, y, y::isStable);
    }

    private static StablepairBureau lastBlocks() {
        StablepairBureau x = tenth();
        x.part(9);
        return x;
    }

    private static void filled() {
        Doc.says(29, "Returns how many a house holds in each stable pairing", "Returns how many", HOUSE);
        for (int places = 1; places <= 4; places++) {
            StablepairBureau x = five(places, 1);
            Check.quiet("as many as it has places", places, x, () -> x.filled(0));
            Check.quiet("a house without a list", 0, x, () -> x.filled(1));
        }
        StablepairBureau y = Check.bureau("0 0>1 1", "0>1 1>2 -");
        y.places(0, 4);
        y.places(1, 2);
        Check.quiet("those who come, not all places", 2, y, () -> y.filled(0));
        Check.quiet("the rest", 1, y, () -> y.filled(1));
        Check.quiet("nobody", 0, y, () -> y.filled(2));
        Check.due("the last house", 1, tenth().filled(9));
        Doc.says(29, NO_HOUSE);
        noHouse(StablepairBureau::filled);
    }

    private static void lacks() {
        Doc.says(30, "Returns how many a house lacks of its least number in each stable pairing",
                "Returns how many, 0 if it lacks none", HOUSE);
        for (int number = 0; number <= 4; number++) {
            for (int places = 1; places <= 4; places++) {
                StablepairBureau x = five(places, 1);
                x.least(0, number);
                Check.quiet(number + " of " + places, number > places ? number - places : 0, x, () -> x.lacks(0));
            }
            StablepairBureau y = of(0, 10, 0);
            y.least(9, number);
            Check.quiet("the last house lacks all", number, y, () -> y.lacks(9));
        }
        Doc.says(30, NO_HOUSE);
        noHouse(StablepairBureau::lacks);
    }
}
