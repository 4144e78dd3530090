/** Promises 21 to 30: pairings. */
final class PairingsTest {
    private static final Class<IllegalArgumentException> ARGUMENT = IllegalArgumentException.class;
    private static final Class<IndexOutOfBoundsException> INDEX = IndexOutOfBoundsException.class;
    private static final Class<UnsupportedOperationException> CANNOT = UnsupportedOperationException.class;
    private static final Class<java.util.NoSuchElementException> ABSENT = java.util.NoSuchElementException.class;
    private static final int[] NOBODY = {-1, 3, 9, 10, 100, Integer.MIN_VALUE, Integer.MAX_VALUE};

    private PairingsTest() {
    }

    public static void main(String[] args) {
        pairing();
        parting();
        holding();
        blocking();
        stability();
        filling();
        Check.end();
    }

    private static void pairing() {
        StablepairBureau x = Check.bureau("0>1 0 1>2", "0>1 0>2 -");
        Check.due("pair", 1, x.pair(0, 0));
        Check.thrown("paired already", CANNOT, x, () -> x.pair(0, 0));
        Check.thrown("full", CANNOT, x, () -> x.pair(1, 0));
        Check.due("pair with another one", 1, x.pair(0, 1));
        Check.due("no longer with the first", 0, x.held(0));
        Check.due("room again", 1, x.pair(1, 0));
        Check.thrown("not on the person's list", ARGUMENT, x, () -> x.pair(1, 1));
        Check.thrown("not on the house's list", ARGUMENT, x, () -> x.pair(2, 2));
        Check.thrown("on none of both", ARGUMENT, x, () -> x.pair(0, 2));
        for (int none : NOBODY) {
            Check.thrown("pair of person " + none, ABSENT, x, () -> x.pair(none, 0));
            Check.thrown("pair of house " + none, ABSENT, x, () -> x.pair(0, none));
        }
        Check.due("pairs", "1 0 -1", Check.homes(x));
        StablepairBureau y = Check.bureau("0>1 0 0", "2>1>0 0");
        y.places(0, 2);
        Check.due("one", 1, y.pair(0, 0));
        Check.due("two", 2, y.pair(2, 0));
        Check.thrown("three", CANNOT, y, () -> y.pair(1, 0));
        Check.thrown("paired in a full house", CANNOT, y, () -> y.pair(2, 0));
        Check.due("away", 1, y.pair(0, 1));
        Check.due("two again", 2, y.pair(1, 0));
        Check.thrown("back into a full house", CANNOT, y, () -> y.pair(0, 0));
    }

    private static void parting() {
        StablepairBureau x = Check.bureau("0>1 0 1", "0>1 0>2");
        x.pair(0, 1);
        x.pair(1, 0);
        Check.due("part", 1, x.part(0));
        Check.due("alone then", -1, x.houseOf(0));
        Check.due("the house too", 0, x.held(1));
        Check.due("part again", -1, x.part(0));
        Check.due("the other one stays", 0, x.houseOf(1));
        for (int none : NOBODY) {
            Check.thrown("part " + none, ABSENT, x, () -> x.part(none));
            Check.thrown("houseOf " + none, ABSENT, x, () -> x.houseOf(none));
        }
    }

    private static void holding() {
        StablepairBureau x = Check.bureau("0 0 0 0>1", "3>1>2>0 3 -");
        x.places(0, 4);
        x.pair(0, 0);
        x.pair(1, 0);
        x.pair(2, 0);
        Check.due("held", 3, x.held(0));
        Check.due("in the order of the list", "1 2 0", Check.heldBy(x, 0));
        x.pair(3, 0);
        Check.due("with one ahead of them", "3 1 2 0", Check.heldBy(x, 0));
        for (int place : new int[] {-1, 4, 9, Integer.MIN_VALUE, Integer.MAX_VALUE}) {
            Check.thrown("heldAt " + place, INDEX, x, () -> x.heldAt(0, place));
        }
        Check.thrown("heldAt of an empty house", INDEX, x, () -> x.heldAt(1, 0));
        for (int none : NOBODY) {
            Check.thrown("held " + none, ABSENT, x, () -> x.held(none));
            Check.thrown("heldAt of " + none, ABSENT, x, () -> x.heldAt(none, 99));
            Check.thrown("filled " + none, ABSENT, x, () -> x.filled(none));
            Check.thrown("lacks " + none, ABSENT, x, () -> x.lacks(none));
        }
    }

    private static void blocking() {
        StablepairBureau x = Check.bureau("0>1 0>1 1", "1>0 0>1");
        Check.due("all mutual pairs block", "0 1 10 11", Check.blocking(x));
        x.pair(0, 0);
        Check.due("a house that would do better", "10 11", Check.blocking(x));
        x.pair(1, 1);
        Check.due("a full house and one behind", "10", Check.blocking(x));
        x.part(0);
        x.pair(1, 0);
        Check.due("a person alone and room", "1", Check.blocking(x));
        x.pair(0, 1);
        Check.due("stable", "", Check.blocking(x));
        for (int index : new int[] {-1, 0, 1, 100, Integer.MIN_VALUE, Integer.MAX_VALUE}) {
            Check.thrown("blockAt " + index, INDEX, x, () -> x.blockAt(index));
        }
        x.part(0);
        Check.due("blockAt 0", 1, x.blockAt(0));
        Check.thrown("blockAt 1", INDEX, x, () -> x.blockAt(1));
        Check.thrown("blockAt -1", INDEX, x, () -> x.blockAt(-1));
        StablepairBureau y = Check.bureau("0 0 0", "2>1>0");
        y.places(0, 2);
        y.pair(0, 0);
        Check.due("room", "10 20", Check.blocking(y));
        y.pair(1, 0);
        Check.due("full, ahead of the last one", "20", Check.blocking(y));
        y.part(0);
        y.pair(2, 0);
        Check.due("full, behind the last one", "", Check.blocking(y));
        StablepairBureau z = Check.bureau("- 1 0", "0 -");
        Check.due("none is mutual", 0, z.blocks());
    }

    private static void stability() {
        StablepairBureau x = Check.bureau("0>1 1>0", "1>0 0>1");
        Check.quiet("nobody is paired", false, x, x::isStable);
        x.pair(0, 0);
        Check.quiet("half", false, x, x::isStable);
        x.pair(1, 1);
        Check.quiet("the persons' best", true, x, x::isStable);
        x.part(0);
        x.part(1);
        x.pair(0, 1);
        x.pair(1, 0);
        Check.quiet("the houses' best", true, x, x::isStable);
        Check.due("blocks", 0, x.blocks());
    }

    private static void filling() {
        StablepairBureau x = Check.bureau("0>1 0>1 0 2", "0>1>2 0>1 -");
        x.places(0, 2);
        x.places(1, 3);
        Check.quiet("filled", 2, x, () -> x.filled(0));
        Check.quiet("filled by none", 0, x, () -> x.filled(1));
        Check.quiet("filled without a list", 0, x, () -> x.filled(2));
        Check.due("lacks none at first", 0, x.lacks(1));
        x.least(0, 1);
        x.least(1, 4);
        x.least(2, 1);
        Check.quiet("has more than it needs", 0, x, () -> x.lacks(0));
        x.least(0, 2);
        Check.quiet("has as many", 0, x, () -> x.lacks(0));
        x.least(0, 3);
        Check.quiet("lacks one", 1, x, () -> x.lacks(0));
        Check.quiet("lacks all", 4, x, () -> x.lacks(1));
        Check.quiet("lacks one, too", 1, x, () -> x.lacks(2));
        x.begin('h');
        x.offer(1);
        Check.quiet("whatever the pairing is", 0, x, () -> x.filled(1));
        Check.quiet("whatever it is", 2, x, () -> x.filled(0));
        Check.due("still paired", "1 -1 -1 -1", Check.homes(x));
    }
}
