/** What the boundary tests share; each of them is one of these, so that it can name all this by itself. */
abstract class Bounds {
    static final Class<IllegalArgumentException> ARGUMENT = IllegalArgumentException.class;
    static final Class<IllegalStateException> STATE = IllegalStateException.class;
    static final Class<IndexOutOfBoundsException> INDEX = IndexOutOfBoundsException.class;
    static final Class<UnsupportedOperationException> CANNOT = UnsupportedOperationException.class;
    static final Class<java.util.NoSuchElementException> ABSENT = java.util.NoSuchElementException.class;
    static final Class<ArithmeticException> DIVISION = ArithmeticException.class;

    static final char[] SIDES = {'p', 'h', 'm'};
    /** The neighbours of the three sides, other cases, and what becomes one of them if its high byte is lost. */
    static final char[] NO_SIDES = {'o', 'q', 'g', 'i', 'l', 'n', 'P', 'H', 'M', 0, ' ', '0', 'p' + 256, 'h' + 256,
        'm' + 256, 65535};
    static final String NO_OFFERS = "no offers have begun";

    static final String SIDE = "`side`: 'p' persons, 'h' houses, 'm' mates";
    static final String LIST_OF = "`who`: the one whose list it is";
    static final String PERSON = "`person`: the person";
    static final String HOUSE = "`house`: the house";
    static final String NO_SIDE = "Throws `IllegalArgumentException` if there is no such side";
    static final String NO_ONE = "Throws `NoSuchElementException` if there is no such one";
    static final String NO_PERSON = "Throws `NoSuchElementException` if there is no such person";
    static final String NO_HOUSE = "Throws `NoSuchElementException` if there is no such house";

    interface OfSide {
        Object on(StablepairBureau x, char side);
    }

    interface OfOne {
        Object on(StablepairBureau x, char side, int who);
    }

    interface OfNumber {
        Object on(StablepairBureau x, int number);
    }

    /** What there is not if there are so many: the ones right below and above, far ones, and those that go round. */
    static int[] absent(int count) {
        return new int[] {-1, count, count + 1, 10 + count, 100, 256, 65536, Integer.MIN_VALUE, Integer.MAX_VALUE};
    }

    static StablepairBureau of(int persons, int houses, int mates) {
        StablepairBureau x = new StablepairBureau();
        int[] counts = {persons, houses, mates};
        for (int side = 0; side < SIDES.length; side++) {
            for (int k = 0; k < counts[side]; k++) {
                x.add(SIDES[side]);
            }
        }
        return x;
    }

    /** Two pairs of two persons and two houses, two mates, and offers of persons have begun. */
    static StablepairBureau paired() {
        StablepairBureau x = Check.bureau("0>1 1>0", "0>1 1>0");
        x.add('m');
        x.add('m');
        x.run('p');
        return x;
    }

    /** A call that lets all pairs go: nobody is paired, no house holds one, no offers have begun, but they are told. */
    static void letsGo(String what, Twin.Use use) {
        StablepairBureau x = paired();
        use.on(x);
        for (int person = 0; person < 2; person++) {
            Check.due(what + " makes alone the person " + person, -1, x.houseOf(person));
        }
        for (int house = 0; house < 2; house++) {
            Check.due(what + " empties the house " + house, 0, x.held(house));
        }
        Check.due(what + " ends offers", NO_OFFERS, Check.canOffer(x));
        Check.due(what + " leaves offers told", "0h 11h", Check.offersMade(x));
    }

    /** A call that ends offers; those that were made stay told. */
    static void endsOffers(String what, Twin.Maker maker, Twin.Use use) {
        StablepairBureau x = maker.make();
        Check.due(what + ": offers had begun", true, Twin.answer(x, StablepairBureau::open) instanceof Integer);
        String told = Check.offersMade(x);
        use.on(x);
        Check.thrown(what + " ends offers: open", STATE, x, x::open);
        Check.thrown(what + " ends offers: offer", STATE, x, () -> x.offer(0));
        Check.due(what + " leaves offers told", told, Check.offersMade(x));
    }

    static void noSide(Twin.Maker maker, OfSide use) {
        for (char side : NO_SIDES) {
            Twin.refused("side " + (int) side, ARGUMENT, maker, x -> use.on(x, side));
        }
    }

    /** The call of one whom there is not on a side, though there may be as many on the others. */
    static void noOne(OfOne use) {
        for (char side : SIDES) {
            for (int who : absent(Twin.busy().many(side))) {
                Twin.refused(side + " " + who, ABSENT, Twin::busy, x -> use.on(x, side, who));
            }
            StablepairBureau others = of(side == 'p' ? 0 : 9, side == 'h' ? 0 : 9, side == 'm' ? 0 : 9);
            Check.thrown("the first of none of " + side, ABSENT, others, () -> use.on(others, side, 0));
            StablepairBureau ten = of(10, 10, 10);
            Check.thrown("an eleventh of " + side, ABSENT, ten, () -> use.on(ten, side, 10));
        }
    }

    static void noPerson(OfNumber use) {
        noneOf('p', use);
    }

    static void noHouse(OfNumber use) {
        noneOf('h', use);
    }

    private static void noneOf(char side, OfNumber use) {
        for (int who : absent(Twin.busy().many(side))) {
            Twin.refused("number " + who, ABSENT, Twin::busy, x -> use.on(x, who));
        }
        StablepairBureau others = of(side == 'p' ? 0 : 9, side == 'h' ? 0 : 9, 9);
        Check.thrown("the first of none", ABSENT, others, () -> use.on(others, 0));
        StablepairBureau ten = of(10, 10, 10);
        Check.thrown("an eleventh", ABSENT, ten, () -> use.on(ten, 10));
    }

    /** An index of which there are so many: each of them is answered, and none outside. */
    static void indices(String what, Class<? extends RuntimeException> kind, Twin.Maker maker, int count, OfNumber use) {
        for (int index = 0; index < count; index++) {
            int one = index;
            Object got = Twin.answer(maker.make(), x -> use.on(x, one));
            Check.due(what + " " + index + " is there", false, got instanceof Class);
        }
        for (int index : absent(count)) {
            Twin.refused(what + " " + index, kind, maker, x -> use.on(x, index));
        }
    }
}
