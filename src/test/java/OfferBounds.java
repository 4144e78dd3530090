/** The boundaries of the term "Offers" and of promises 14 to 20: begin, offer, open, run, offers, offerAt, resultAt. */
final class OfferBounds extends Bounds {
    private static final String OFFER_SIDE = "`side`: 'p' or 'h'";
    private static final String NO_OFFER_SIDE =
            "Throws `IllegalArgumentException` if there is no such side, or it is that of mates";
    private static final String NOT_BEGUN = "Throws `IllegalStateException` if no offers have begun";
    private static final String NO_OFFER = "Throws `IndexOutOfBoundsException` if there is no such offer";
    private static final String ALL = "0>1>2>3>4>5>6>7>8>9";

    private OfferBounds() {
    }

    static void all() {
        alongTheList();
        whoCan();
        notOnTheList();
        room();
        full();
        withAHouse();
        holding();
        beginning();
        offering();
        refusals();
        opening();
        running();
        counting();
        log();
    }

    /** The same list for ten. */
    private static String ten(String list) {
        return (list + " ").repeat(10).trim();
    }

    private static StablepairBureau begun(char side, String persons, String houses) {
        StablepairBureau x = Check.bureau(persons, houses);
        x.begin(side);
        return x;
    }

    private static void alongTheList() {
        Doc.terms("The offers of each one of the side that offers go along its list, from its first place on, each place "
                + "once");
        StablepairBureau x = begun('p', "2>0>1 -", "- - -");
        for (int made = 1; made <= 3; made++) {
            Check.due("offer", 'r', x.offer(0));
            Check.due("offers", made, x.offers());
        }
        Check.due("in the order of the list", "2r 0r 1r", Check.offersMade(x));
        Check.thrown("each place once", CANNOT, x, () -> x.offer(0));
        StablepairBureau y = begun('h', "- - -", "1>2>0 0");
        y.offer(0);
        y.offer(1);
        y.offer(0);
        y.offer(0);
        Check.due("each one along its own list", "1r 10r 2r 0r", Check.offersMade(y));
        Check.thrown("each place once", CANNOT, y, () -> y.offer(0));
        Check.thrown("of each one", CANNOT, y, () -> y.offer(1));
        y.begin('h');
        Check.due("from the first place on again", 'r', y.offer(0));
        Check.due("that is the first", 1, y.offerAt(0));
    }

    private static void whoCan() {
        Doc.terms("A person can make an offer if it is alone, a house if it is not full, and if there are places on its "
                + "list to which it has not offered");
        StablepairBureau x = begun('p', "0>1 - 0", "2>0 -");
        Check.due("those with a list", 2, x.open());
        Check.thrown("one without a list", CANNOT, x, () -> x.offer(1));
        x.offer(0);
        Check.due("not one who is paired", 1, x.open());
        Check.thrown("one who is paired, with a place left", CANNOT, x, () -> x.offer(0));
        x.offer(2);
        Check.due("one who was let go, with a place left", 1, x.open());
        Check.due("it offers to that", 'r', x.offer(0));
        Check.due("not one who is alone, with none left", 0, x.open());
        Check.thrown("not one who is alone, with none left", CANNOT, x, () -> x.offer(0));
        for (int places = 1; places <= 4; places++) {
            StablepairBureau y = Check.bureau("0 0 0 0 0", "0>1>2>3>4 -");
            y.places(0, places);
            y.begin('h');
            for (int made = 0; made < places; made++) {
                Check.due("a house that is not full", 1, y.open());
                Check.due("it holds", 'h', y.offer(0));
            }
            Check.due("a full house with places left on its list", 0, y.open());
            Check.thrown("a full house", CANNOT, y, () -> y.offer(0));
            Check.thrown("a house without a list", CANNOT, y, () -> y.offer(1));
        }
        StablepairBureau z = Check.bureau("0 0", "0>1");
        z.places(0, 3);
        z.begin('h');
        z.offer(0);
        z.offer(0);
        Check.due("a house that is not full, with none left", 0, z.open());
        Check.thrown("a house that is not full, with none left", CANNOT, z, () -> z.offer(0));
    }

    private static void notOnTheList() {
        Doc.terms("The one that is asked refuses if the other one is not on its list");
        StablepairBureau x = begun('p', "0 0 0", "2>1");
        Check.due("an empty house, the person not on its list", 'r', x.offer(0));
        Check.due("the person stays alone", -1, x.houseOf(0));
        Check.due("one on its list", 'h', x.offer(1));
        StablepairBureau y = Check.bureau("0 0", "1");
        y.places(0, 4);
        y.begin('p');
        Check.due("room for four, not on the list", 'r', y.offer(0));
        StablepairBureau z = begun('h', "1 -", "0>1 0");
        Check.due("a person alone, the house not on its list", 'r', z.offer(0));
        Check.due("a person with an empty list", 'r', z.offer(0));
        Check.due("a house on it", 'h', z.offer(1));
        StablepairBureau w = begun('h', "1", "0 0");
        w.offer(1);
        Check.due("a person with a house, the other not on its list", 'r', w.offer(0));
        Check.due("it stays where it is", 1, w.houseOf(0));
    }

    private static void room() {
        Doc.terms("otherwise a house that is not full, and a person who is alone, hold the other one");
        for (int places = 1; places <= 4; places++) {
            StablepairBureau x = Check.bureau("0 0 0 0 0", "4>0>1>2>3");
            x.places(0, places);
            x.begin('p');
            for (int person = 0; person < places; person++) {
                Check.due("not full: held", 'h', x.offer(person));
                Check.due("held", person + 1, x.held(0));
            }
            Check.due("full: one goes", 'x', x.offer(4));
            Check.due("as many as it has places", places, x.held(0));
        }
        StablepairBureau y = begun('h', "1>0", "0 0");
        Check.due("alone: held, though behind on the list", 'h', y.offer(0));
        Check.due("its house", 0, y.houseOf(0));
    }

    private static void full() {
        Doc.terms("a house that is full refuses the other one if all that it holds are ahead of it on its list, and else "
                + "holds it and lets the last one go, by its list");
        StablepairBureau x = Check.bureau("0 0 0 0 0", "3>1>4>0>2");
        x.places(0, 2);
        x.begin('p');
        x.offer(0);
        x.offer(4);
        Check.due("right behind the last one", 'r', x.offer(2));
        Check.due("nobody went", "4 0", Check.heldBy(x, 0));
        Check.due("ahead of all", 'x', x.offer(3));
        Check.due("the last one went", "3 4", Check.heldBy(x, 0));
        Check.due("between them", 'x', x.offer(1));
        Check.due("the last one by the list went, not that by the number or by the offer", "3 1", Check.heldBy(x, 0));
        Check.due("who is alone then", "-1 0 -1 0 -1", Check.homes(x));
        StablepairBureau y = begun('p', "0 0", "0>1");
        y.offer(0);
        Check.due("a house of one place, behind", 'r', y.offer(1));
        StablepairBureau z = begun('p', "0 0", "1>0");
        z.offer(0);
        Check.due("a house of one place, ahead", 'x', z.offer(1));
        Check.due("changed", "-1 0", Check.homes(z));
    }

    private static void withAHouse() {
        Doc.terms("a person with a house refuses one that is behind it on its list, and else holds it, and lets its own go");
        StablepairBureau x = begun('h', "2>0>1", "0 0 0");
        Check.due("alone", 'h', x.offer(0));
        Check.due("right behind its own", 'r', x.offer(1));
        Check.due("it stays", 0, x.houseOf(0));
        Check.due("ahead of its own", 'x', x.offer(2));
        Check.due("its own went", "0 2", x.held(0) + " " + x.houseOf(0));
        StablepairBureau y = Check.bureau("1>0 0", "0>1 0");
        y.places(0, 2);
        y.begin('h');
        y.offer(0);
        y.offer(0);
        Check.due("a full house cannot", 1, y.open());
        Check.due("its person goes", 'x', y.offer(1));
        Check.due("the other one stays", "1", Check.heldBy(y, 0));
        Check.due("it is not full, but its list is at its end", 0, y.open());
    }

    private static void holding() {
        Doc.terms("Who holds one, is paired with it");
        StablepairBureau x = begun('p', "0 0", "1>0");
        x.offer(0);
        Check.due("held", "0 -1", Check.homes(x));
        Check.due("one pair", 0.5f, x.pairedShare());
        x.offer(1);
        Check.due("held in its place", "-1 0", Check.homes(x));
        StablepairBureau y = begun('h', "0", "0");
        y.offer(0);
        Check.due("held by a person", "0", Check.heldBy(y, 0));
        Check.due("and paired", 0, y.houseOf(0));
    }

    private static void beginning() {
        Doc.says(14, "Lets all pairs go, and offers of a side begin", "Returns how many can offer", OFFER_SIDE);
        for (char side : new char[] {'p', 'h'}) {
            Check.due("of none", 0, new StablepairBureau().begin(side));
            Check.due("of ten without lists", 0, of(10, 10, 10).begin(side));
            Check.due("of ten", 10, Check.bureau(ten(ALL), ten(ALL)).begin(side));
            Check.due("of ten on the other side", side == 'p' ? 1 : 10, Check.bureau("0", ten("0")).begin(side));
            StablepairBureau x = paired();
            Check.due("begin", 2, x.begin(side));
            Check.due("all pairs are let go", "-1 -1", Check.homes(x));
            Check.due("houses are empty", 0, x.held(0) + x.held(1));
            Check.due("offers of before are told no longer", 0, x.offers());
            Check.due("offers have begun", "open 2", Check.canOffer(x));
            x.offer(1);
            x.begin(side);
            Check.due("begun again", "open 2", Check.canOffer(x));
            Check.due("from the first place on", 'h', x.offer(1));
        }
        StablepairBureau y = Check.bureau("0 - 1>0", "2 -");
        Check.due("two persons", 2, y.begin('p'));
        Check.due("one house", 1, y.begin('h'));
        Doc.says(14, NO_OFFER_SIDE);
        noSide(Twin::busy, StablepairBureau::begin);
        Twin.refused("mates", ARGUMENT, Twin::busy, x -> x.begin('m'));
        Twin.refused("mates, none began", ARGUMENT, () -> of(2, 2, 2), x -> x.begin('m'));
    }

    private static void offering() {
        Doc.says(15, "Makes the next offer of one of the side that offers", "`who`: the one",
                "Returns 'h' held, 'x' held, and another one was let go for it, 'r' refused");
        StablepairBureau x = begun('p', "0>1 0>1 0>1", "1>0>2 2>0");
        Check.due("held", 'h', x.offer(0));
        Check.due("refused", 'r', x.offer(2));
        Check.due("another one let go", 'x', x.offer(1));
        Check.due("the next one: held", 'h', x.offer(2));
        Check.due("the next one: refused", 'r', x.offer(0));
        Check.due("who was asked", "0h 20r 10x 21h 1r", Check.offersMade(x));
        Check.due("pairs", "-1 0 1", Check.homes(x));
    }

    private static void refusals() {
        Doc.says(15, NOT_BEGUN);
        for (int who : new int[] {0, 1, -1, 99, Integer.MIN_VALUE, Integer.MAX_VALUE}) {
            Twin.refused("a new object, " + who, STATE, StablepairBureau::new, x -> x.offer(who));
            Twin.refused("none began, " + who, STATE, () -> of(2, 2, 2), x -> x.offer(who));
            Twin.refused("they ended, " + who, STATE, OfferBounds::ended, x -> x.offer(who));
        }
        Doc.says(15, NO_ONE);
        for (int who : absent(4)) {
            Twin.refused("person " + who, ABSENT, Twin::busy, x -> x.offer(who));
        }
        for (int who : absent(3)) {
            Twin.refused("house " + who, ABSENT, OfferBounds::busyHouses, x -> x.offer(who));
        }
        Twin.refused("one of none, but houses", ABSENT, () -> begun('p', "", "- -"), x -> x.offer(0));
        Twin.refused("one of none, but persons", ABSENT, () -> begun('h', "- -", ""), x -> x.offer(0));
        Twin.refused("an eleventh", ABSENT, () -> begun('p', ten(ALL), ten(ALL)), x -> x.offer(10));
        Check.due("the tenth", 'h', begun('p', ten(ALL), ten(ALL)).offer(9));
        Doc.says(15, "Throws `UnsupportedOperationException` if it can make none");
        Twin.refused("paired, places left", CANNOT, Twin::busy, x -> x.offer(3));
        Twin.refused("paired, no places left", CANNOT, () -> used('p', "0", "0", 1), x -> x.offer(0));
        Twin.refused("an empty list", CANNOT, () -> begun('p', "- 0", "1"), x -> x.offer(0));
        Twin.refused("a list at its end", CANNOT, () -> used('p', "0>1 0", "- 1", 2), x -> x.offer(0));
        Check.due("a list not yet at its end", 'r', used('p', "0>1 0", "- 1", 1).offer(0));
        Twin.refused("a full house", CANNOT, () -> used('h', "0 0", "0>1", 1), x -> x.offer(0));
        Twin.refused("a house with an empty list", CANNOT, () -> begun('h', "0", "- 0"), x -> x.offer(0));
        Twin.refused("a house, its list at its end", CANNOT, () -> used('h', "- 0", "0", 1), x -> x.offer(0));
    }

    private static StablepairBureau used(char side, String persons, String houses, int offers) {
        StablepairBureau x = begun(side, persons, houses);
        for (int made = 0; made < offers; made++) {
            x.offer(0);
        }
        return x;
    }

    private static StablepairBureau ended() {
        StablepairBureau x = Twin.busy();
        x.part(2);
        return x;
    }

    private static StablepairBureau busyHouses() {
        StablepairBureau x = Twin.busy();
        x.begin('h');
        x.offer(1);
        x.offer(2);
        x.offer(1);
        return x;
    }

    private static void opening() {
        Doc.says(16, "Returns how many of the side that offers can make one", "Returns how many");
        StablepairBureau x = begun('p', ten(ALL), ten("9"));
        Check.quiet("all ten", 10, x, x::open);
        x.offer(9);
        Check.quiet("not one who is held", 9, x, x::open);
        for (int made = 1; made <= 10; made++) {
            x.offer(0);
            Check.quiet("one who was refused, until its list is at its end", made < 10 ? 9 : 8, x, x::open);
        }
        Check.due("none of none", 0, begun('h', "- -", "").open());
        Check.due("none after all", 0, paired().open());
        Doc.says(16, NOT_BEGUN);
        Twin.refused("a new object", STATE, StablepairBureau::new, StablepairBureau::open);
        Twin.refused("none began", STATE, () -> Check.bureau("0", "0"), StablepairBureau::open);
        Twin.refused("they ended", STATE, OfferBounds::ended, StablepairBureau::open);
    }

    private static void running() {
        Doc.says(17, "Lets offers of a side begin, and all of them be made, always the next one of the one with the lowest "
                + "number who can make one", "Returns how many offers were made", OFFER_SIDE);
        for (char side : new char[] {'p', 'h'}) {
            Check.due("of none", 0, new StablepairBureau().run(side));
            Check.due("of ten without lists", 0, of(10, 10, 10).run(side));
            boolean persons = side == 'p';
            StablepairBureau x = Check.bureau(ten(persons ? ALL : "-"), ten(persons ? "-" : ALL));
            Check.due("the most", 100, x.run(side));
            Check.due("the first goes on to its end", 9, x.offerAt(9));
            Check.due("then the second", 10, x.offerAt(10));
            Check.due("the last", 99, x.offerAt(99));
            Check.due("offers have begun, and none can be made", "open 0", Check.canOffer(x));
            Check.due("again as many", 100, x.run(side));
        }
        StablepairBureau y = Check.bureau("1>0 1>0 0", "1>0>2 2>1>0");
        Check.due("offers", 4, y.run('p'));
        Check.due("one let go goes on at once", "1h 11x 0h 20r", Check.offersMade(y));
        StablepairBureau z = Check.bureau("0 0", "1>0");
        z.begin('h');
        z.offer(0);
        Check.due("pairs of before are let go", 2, z.run('p'));
        Check.due("its offers alone", "0h 10x", Check.offersMade(z));
        Doc.says(17, NO_OFFER_SIDE);
        noSide(Twin::busy, StablepairBureau::run);
        Twin.refused("mates", ARGUMENT, Twin::busy, x -> x.run('m'));
    }

    private static void counting() {
        Doc.says(18, "Returns how many offers were made since offers of a side began the last time, also if these have "
                + "ended since", "Returns how many, 0 if none ever did");
        Check.due("a new object", 0, new StablepairBureau().offers());
        Check.due("none ever began", 0, Check.bureau("0", "0").offers());
        StablepairBureau x = Twin.busy();
        Check.quiet("three", 3, x, x::offers);
        x.add('m');
        Check.quiet("they have ended", 3, x, x::offers);
        x.pair(0, 0);
        x.part(0);
        x.cut('p', 0, 0);
        x.places(0, 4);
        Check.due("whatever came then", 3, x.offers());
        x.without(1);
        x.withoutHouse(1);
        x.filled(0);
        x.stables();
        x.isTrue();
        Check.due("offers that are only tried out do not count", 3, x.offers());
        x.begin('h');
        Check.due("begun anew", 0, x.offers());
        x.offer(1);
        Check.due("one", 1, x.offers());
    }

    private static void log() {
        Doc.says(19, "Returns an offer", "Returns 10 times who made it, plus who was asked",
                "`index`: from 0, as they were made");
        StablepairBureau x = begun('p', "9 - - - - - - - - 0>9", "9 - - - - - - - - 9");
        x.offer(9);
        x.offer(0);
        Check.quiet("9 asked 0", 90, x, () -> x.offerAt(0));
        Check.quiet("0 asked 9", 9, x, () -> x.offerAt(1));
        x.begin('h');
        x.offer(9);
        x.offer(0);
        Check.quiet("house 9 asked 9", 99, x, () -> x.offerAt(0));
        Check.quiet("house 0 asked 9", 9, x, () -> x.offerAt(1));
        Doc.says(19, NO_OFFER);
        indices("offer", INDEX, StablepairBureau::new, 0, StablepairBureau::offerAt);
        indices("offer of begun ones", INDEX, OfferBounds::justBegun, 0, StablepairBureau::offerAt);
        indices("offer of three", INDEX, Twin::busy, 3, StablepairBureau::offerAt);
        indices("offer of ended ones", INDEX, OfferBounds::ended, 3, StablepairBureau::offerAt);
        indices("offer of a hundred", INDEX, OfferBounds::hundred, 100, StablepairBureau::offerAt);
        Doc.says(20, "Returns what came of an offer", "Returns what offer() told", "`index`: from 0");
        StablepairBureau y = begun('p', "0>1 0>1 0>1", "1>0>2 2>0");
        int[] order = {0, 2, 1, 2, 0};
        for (int index = 0; index < order.length; index++) {
            char told = y.offer(order[index]);
            int one = index;
            Check.quiet("what offer told", told, y, () -> y.resultAt(one));
        }
        Check.due("the first one still", 'h', y.resultAt(0));
        StablepairBureau z = hundred();
        Check.due("the last but one of a hundred", 'r', z.resultAt(98));
        Check.due("the last of a hundred", 'h', z.resultAt(99));
        Check.due("that is of both tenth ones", 99, z.offerAt(99));
        Doc.says(20, NO_OFFER);
        indices("result", INDEX, StablepairBureau::new, 0, StablepairBureau::resultAt);
        indices("result of begun ones", INDEX, OfferBounds::justBegun, 0, StablepairBureau::resultAt);
        indices("result of three", INDEX, Twin::busy, 3, StablepairBureau::resultAt);
        indices("result of ended ones", INDEX, OfferBounds::ended, 3, StablepairBureau::resultAt);
        indices("result of a hundred", INDEX, OfferBounds::hundred, 100, StablepairBureau::resultAt);
    }

    private static StablepairBureau justBegun() {
        return begun('p', "0", "0");
    }

    /** All are refused to the end of their lists, but for the tenth person by the tenth house. */
    private static StablepairBureau hundred() {
        StablepairBureau x = Check.bureau(ten(ALL), "- - - - - - - - - 9");
        x.run('p');
        return x;
    }
}
