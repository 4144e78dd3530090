/** The boundaries of promises 38 to 42: gain, cutFor, lie, without, withoutHouse. */
final class ChangeBounds extends Bounds {
    private static final String MORE = "Throws `UnsupportedOperationException` if it has more places";
    private static final String TEN = "9>8>7>6>5>4>3>2>1>0";

    private ChangeBounds() {
    }

    static void all() {
        gain();
        cutFor();
        lie();
        lies();
        without();
        withoutHouse();
    }

    /** The last of the first list and the last of the second one have each other alone. */
    private static StablepairBureau far() {
        String nine = " - - - - - - - - -";
        return Check.bureau(TEN + nine, TEN + nine);
    }

    /** Two persons who change houses if the houses offer, and a third one with a house of its own. */
    private static StablepairBureau twoStable() {
        return Check.bureau("0>1 1>0 2", "1>0 0>1 2");
    }

    private static StablepairBureau withPlaces(int places) {
        StablepairBureau x = Check.bureau("0>1 1>0", "1>0 0>1");
        x.places(0, places);
        x.run('p');
        return x;
    }

    private static void gain() {
        Doc.says(38, "Returns the best that a house of one place can come to if it cuts its list off, as persons offer",
                "Returns the place on its list of the person whom it holds then, or -1", HOUSE);
        for (int many = 1; many <= 10; many++) {
            int count = many;
            Twin.asked("the first of " + many, 0, () -> Markets.round(count), x -> x.gain(count - 1));
        }
        Check.due("the last of ten", 9, far().gain(0));
        Check.due("nobody, its list being empty", -1, of(10, 10, 0).gain(9));
        Check.due("nobody, as nobody lists it", -1, Check.bureau("- -", "0>1").gain(0));
        Check.due("nobody, as it lists others alone", -1, Check.bureau("0 -", "1").gain(0));
        Check.due("the whole list", 0, Check.bureau("0", "0").gain(0));
        Check.due("the second, as the first never comes", 1, Check.bureau("0>1 1>0 1", "2>1>0 0>1").gain(0));
        Doc.says(38, NO_HOUSE);
        noHouse(StablepairBureau::gain);
        Doc.says(38, MORE);
        for (int places = 2; places <= 4; places++) {
            int number = places;
            Twin.refused("of places " + places, CANNOT, () -> withPlaces(number), x -> x.gain(0));
            Check.due("another house", 1, withPlaces(number).gain(1));
        }
        Check.due("of one place", 0, withPlaces(1).gain(0));
        StablepairBureau again = withPlaces(2);
        again.places(0, 1);
        Check.due("of one place again", 0, again.gain(0));
    }

    private static void cutFor() {
        Doc.says(39, "Returns how long the longest list is, cut off or whole, by which a house of one place comes to that",
                "Returns how many are on it", HOUSE);
        for (int many = 2; many <= 10; many++) {
            int count = many;
            Twin.asked("the first alone of " + many, 1, () -> Markets.round(count), x -> x.cutFor(count - 1));
        }
        Check.due("one of one", 1, Markets.round(1).cutFor(0));
        Check.due("the whole one", 10, far().cutFor(0));
        Check.due("all but the last one", 3, Check.bureau("0>1 1>0 - -", "1>2>3>0 0>1").cutFor(0));
        Check.due("with two who never come on it", 3, Check.bureau("0>1 1>0 - -", "2>1>3>0 0>1").cutFor(0));
        Check.due("as long as both in the midst", 2, Check.bureau("0>1 1>0 1", "2>1>0 0>1").cutFor(0));
        Check.due("the whole one, as no cut is better", 2, Check.bureau("1>0 0>1", "1>0 0>1").cutFor(0));
        Check.due("nobody comes: the whole one, empty", 0, of(10, 10, 0).cutFor(9));
        Check.due("nobody comes: the whole one", 2, Check.bureau("- -", "0>1").cutFor(0));
        Check.due("nobody comes: the whole one", 1, Check.bureau("0 -", "1").cutFor(0));
        Doc.says(39, NO_HOUSE);
        noHouse(StablepairBureau::cutFor);
        Doc.says(39, MORE);
        for (int places = 2; places <= 4; places++) {
            int number = places;
            Twin.refused("of places " + places, CANNOT, () -> withPlaces(number), x -> x.cutFor(0));
            Check.due("another house", 2, withPlaces(number).cutFor(1));
        }
        Check.due("of one place", 1, withPlaces(1).cutFor(0));
    }

    private static int lie(StablepairBureau x, int person, String text) {
        x.erase();
        Check.type(x, text);
        return x.lie(person);
    }

    private static void lie() {
        Doc.says(40, "Returns the place on its own list of the house that it comes to by it, as persons offer, -1 if it comes "
                + "to none, 90 if that house is not on its own list, or -2 less the fault", PERSON);
        StablepairBureau x = Check.bureau(TEN + " - - - - - - - - 9", "0 0 0 0 0 0 0 0 0 9>0");
        for (int house = 0; house < 9; house++) {
            Check.due("the place", 9 - house, lie(x, 0, "" + house));
        }
        Check.due("it comes to none, refused", -1, lie(x, 0, "9"));
        Check.due("it comes to none, by an empty list", -1, lie(x, 0, ""));
        Check.due("the first place", 0, lie(x, 9, "9"));
        StablepairBureau y = Check.bureau("0 -", "0>1 1");
        Check.due("not on its own list, empty", 90, lie(y, 1, "1"));
        Check.due("another place by another list", -1, lie(y, 1, "0"));
        Check.due("not on its own list", -1, lie(y, 0, "1"));
        Check.due("its own list", 0, lie(y, 0, "0"));
        Check.due("the least fault", -2, lie(y, 0, "x"));
        Check.due("the first number", -2, lie(y, 0, "2"));
        Check.due("a fault behind a number", -3, lie(y, 0, "0x"));
        Check.due("behind a '>'", -4, lie(y, 0, "0>"));
        Check.due("a number that was there already", -4, lie(y, 0, "0>0"));
        Check.due("the greatest fault", -62, lie(y, 0, "0".repeat(59) + ">"));
        Check.due("sixty signs", 0, lie(y, 0, "0".repeat(60)));
        Check.due("as persons offer", 0, lie(twoStable(), 0, "0>1"));
        Check.due("as persons offer, to the other one", 1, lie(twoStable(), 0, "1>0"));
        Check.due("the number of the person is no fault", 0, lie(Check.bureau("0", "0"), 0, "0"));
        Check.due("there are no houses", -2, lie(of(2, 0, 2), 0, "0"));
        Check.due("there are no houses, but an empty list", -1, lie(of(2, 0, 2), 0, ""));
    }

    private static void lies() {
        Doc.says(40, "Reads the text as a false list of a person, which it does not keep");
        for (String text : new String[] {"", "0", "2>1", "1=0", "3", "0>", "x"}) {
            StablepairBureau x = Twin.busy();
            lie(x, 0, text);
            StablepairBureau erased = Twin.busy();
            erased.erase();
            Check.due("as if erased: " + text, Twin.future(erased), Twin.future(x));
        }
        Doc.says(40, "the text is taken away");
        for (String text : new String[] {"", "0", "x", "0>", "9", "0".repeat(60), "0".repeat(59) + ">"}) {
            StablepairBureau x = Twin.busy();
            lie(x, 3, text);
            Check.due("after " + text, 0, x.erase());
        }
        Doc.says(40, NO_PERSON);
        noPerson(StablepairBureau::lie);
        Twin.refused("a text with a fault stays, too", ABSENT, () -> withText("0>"), x -> x.lie(4));
    }

    private static StablepairBureau withText(String text) {
        StablepairBureau x = Twin.busy();
        x.erase();
        Check.type(x, text);
        return x;
    }

    /** Each one would have the house ahead of its own, if the one who is there were not. */
    private static StablepairBureau queue() {
        return Check.bureau("0 0>1 1>2 2>3 3>4 4>5 5>6 6>7 7>8 8>9", "0>1 1>2 2>3 3>4 4>5 5>6 6>7 7>8 8>9 9");
    }

    private static void without() {
        Doc.says(41, "Returns how many other persons come to another house, or to one or none, if one person is not there, as "
                + "persons offer", "Returns how many", PERSON);
        for (int person = 0; person < 10; person++) {
            int one = person;
            Twin.asked("without " + person, 9 - person, ChangeBounds::queue, x -> x.without(one));
        }
        Check.due("as persons offer", 0, twoStable().without(2));
        Check.due("the one itself is no other one", 0, Check.bureau("0", "0").without(0));
        Check.due("one comes to a house", 1, Check.bureau("0 0", "0>1").without(0));
        Check.due("one who is alone is missed by none", 0, Check.bureau("0 0", "0>1").without(1));
        Check.due("one without a list", 0, of(10, 10, 0).without(9));
        Check.due("one person alone", 0, of(1, 0, 0).without(0));
        Doc.says(41, NO_PERSON);
        noPerson(StablepairBureau::without);
    }

    /** Each one would take the next house, and send away the one who is there, if its own house were not. */
    private static StablepairBureau push() {
        return Check.bureau("0>1 1>2 2>3 3>4 4>5 5>6 6>7 7>8 8>9 9", "0 0>1 1>2 2>3 3>4 4>5 5>6 6>7 7>8 8>9");
    }

    private static void withoutHouse() {
        Doc.says(42, "Returns how many persons come to another house, or to one or none, if one house is not there, as "
                + "persons offer", "Returns how many", HOUSE);
        for (int house = 0; house < 10; house++) {
            int one = house;
            Twin.asked("without " + house, 10 - house, ChangeBounds::push, x -> x.withoutHouse(one));
        }
        Check.due("as persons offer", 1, twoStable().withoutHouse(2));
        Check.due("one comes to none", 1, Check.bureau("0", "0").withoutHouse(0));
        Check.due("one comes to another one", 1, Check.bureau("0>1", "0 0").withoutHouse(0));
        Check.due("one in its place comes to none", 1, Check.bureau("0>1 1", "0 0>1").withoutHouse(1));
        Check.due("a house that holds nobody", 0, Check.bureau("0>1", "0 0").withoutHouse(1));
        Check.due("a house without a list", 0, of(10, 10, 0).withoutHouse(9));
        StablepairBureau four = Check.bureau("0 0 0 0 0", "0>1>2>3>4");
        four.places(0, 4);
        Check.due("a house of four places", 4, four.withoutHouse(0));
        Doc.says(42, NO_HOUSE);
        noHouse(StablepairBureau::withoutHouse);
    }
}
