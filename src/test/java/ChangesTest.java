/** Promises 38 to 42: false lists, and what changes if one is not there. */
final class ChangesTest {
    private static final Class<UnsupportedOperationException> CANNOT = UnsupportedOperationException.class;
    private static final Class<java.util.NoSuchElementException> ABSENT = java.util.NoSuchElementException.class;
    private static final int[] NOBODY = {-1, 3, 9, 10, 100, Integer.MIN_VALUE, Integer.MAX_VALUE};

    private ChangesTest() {
    }

    public static void main(String[] args) {
        cutting();
        lying();
        withoutOne();
        Check.end();
    }

    private static void cutting() {
        StablepairBureau x = Markets.three();
        x.begin('p');
        x.offer(2);
        for (int house = 0; house < 3; house++) {
            int of = house;
            Check.quiet("gain " + house, 0, x, () -> x.gain(of));
            // With two on it the house comes to the second one only.
            Check.quiet("cutFor " + house, 1, x, () -> x.cutFor(of));
        }
        for (int none : NOBODY) {
            Check.thrown("gain " + none, ABSENT, x, () -> x.gain(none));
            Check.thrown("cutFor " + none, ABSENT, x, () -> x.cutFor(none));
        }
        StablepairBureau y = Check.bureau("0>1 1>0 -", "1>0>2 0>1 -");
        Check.due("gain", 0, y.gain(0));
        Check.due("cutFor", 1, y.cutFor(0));
        Check.due("gain of none", -1, y.gain(2));
        Check.due("cutFor of none", 0, y.cutFor(2));
        // Whoever would come is not on its list, or comes anyway.
        StablepairBureau z = Check.bureau("0 0 1", "2>1>0 0>1");
        Check.due("gain by the whole list", 1, z.gain(0));
        Check.due("the whole list", 3, z.cutFor(0));
        Check.due("gain of one to whom nobody comes", -1, z.gain(1));
        Check.due("its whole list", 2, z.cutFor(1));
        StablepairBureau w = Check.bureau("0>1 1>0", "1>0 0>1");
        w.places(0, 2);
        Check.thrown("gain, two places", CANNOT, w, () -> w.gain(0));
        Check.thrown("cutFor, two places", CANNOT, w, () -> w.cutFor(0));
        Check.thrown("gain, no such one", ABSENT, w, () -> w.gain(2));
        Check.due("gain of the other one", 1, w.gain(1));
        Check.due("cutFor of the other one", 2, w.cutFor(1));
        // By the whole list the best one comes in the end, though it offers elsewhere first.
        StablepairBureau v = Check.bureau("0>1 1>0 0", "1>2>0 0>1");
        Check.due("gain by refusing nobody", 0, v.gain(0));
        Check.due("cutFor of the whole", 3, v.cutFor(0));
        // Its best one never comes: without the last one on the list it has the second one.
        StablepairBureau u = Check.bureau("0>1 1>0 1", "2>1>0 0>1");
        Check.due("gain in the midst", 1, u.gain(0));
        Check.due("cutFor in the midst", 2, u.cutFor(0));
    }

    private static int lie(StablepairBureau x, int person, String text) {
        x.erase();
        Check.type(x, text);
        String homes = Check.homes(x);
        String list = Check.list(x, 'p', person);
        String offers = Check.offersMade(x) + Check.canOffer(x);
        int place = x.lie(person);
        Check.due("lie takes the text away", 0, x.erase());
        Check.due("lie keeps the pairs", homes, Check.homes(x));
        Check.due("lie keeps the list", list, Check.list(x, 'p', person));
        Check.due("lie keeps the offers", offers, Check.offersMade(x) + Check.canOffer(x));
        return place;
    }

    private static void lying() {
        StablepairBureau x = Check.bureau("0>1 0>1 2", "1>0 0>1 0>2");
        x.begin('p');
        x.offer(1);
        Check.due("the own list", 1, lie(x, 0, "0>1"));
        Check.due("a list of one", -1, lie(x, 0, "0"));
        Check.due("an empty list", -1, lie(x, 0, ""));
        Check.due("a house not on the own list", 90, lie(x, 0, "2"));
        Check.due("the first place", 0, lie(x, 1, "0"));
        Check.due("a list of like wishes", 0, lie(x, 1, "1=0"));
        Check.due("the second place", 1, lie(x, 1, "1>0"));
        Check.due("a fault at 0", -2, lie(x, 0, "3"));
        Check.due("a fault at the end", -4, lie(x, 0, "0>"));
        Check.due("a fault in the midst", -5, lie(x, 0, "0>1x"));
        Check.due("one that was there already", -4, lie(x, 0, "0>0"));
        Check.due("the number of the person itself is no fault", 0, lie(x, 2, "2"));
        Check.type(x, "0>1");
        for (int none : NOBODY) {
            Check.thrown("lie of " + none, ABSENT, x, () -> x.lie(none));
        }
        Check.due("the text stays", 3, x.erase());
    }

    private static void withoutOne() {
        StablepairBureau x = Check.bureau("0>1 0>1 1>0", "1>0>2 1>0>2");
        x.begin('h');
        x.offer(1);
        // All: 1 in the house 0, 0 in the house 1, 2 alone.
        Check.quiet("without one who is alone", 0, x, () -> x.without(2));
        Check.quiet("another one comes to a house", 1, x, () -> x.without(0));
        Check.quiet("one changes, one comes to a house", 2, x, () -> x.without(1));
        Check.quiet("without a house", 2, x, () -> x.withoutHouse(0));
        Check.quiet("without the other house", 1, x, () -> x.withoutHouse(1));
        StablepairBureau y = Markets.three();
        for (int k = 0; k < 3; k++) {
            Check.due("nobody moves", 0, y.without(k));
            Check.due("all move", 3, y.withoutHouse(k));
        }
        StablepairBureau z = Check.bureau("0>1 0>1 0", "2>1>0 0>1 0");
        z.places(0, 2);
        Check.due("to another house", 1, z.without(1));
        Check.due("two places", 1, z.without(2));
        Check.due("none moves", 0, z.without(0));
        // By all: 1 and 2 in the house 0, 0 in the house 1, where it stays.
        Check.due("without a house of two places", 2, z.withoutHouse(0));
        Check.due("without a house that nobody has", 0, z.withoutHouse(2));
        for (int none : NOBODY) {
            Check.thrown("without " + none, ABSENT, x, () -> x.without(none));
            Check.thrown("withoutHouse " + none, ABSENT, x, () -> x.withoutHouse(none));
        }
    }
}
