import java.util.ArrayList;
import java.util.List;

/** Promises 31 to 37: rotations, and all stable pairings. */
final class LatticeTest {
    private static final Class<IllegalArgumentException> ARGUMENT = IllegalArgumentException.class;
    private static final Class<IllegalStateException> STATE = IllegalStateException.class;
    private static final Class<IndexOutOfBoundsException> INDEX = IndexOutOfBoundsException.class;
    private static final Class<UnsupportedOperationException> CANNOT = UnsupportedOperationException.class;
    private static final int[] FAR = {-1, 10, 61, 100, Integer.MIN_VALUE, Integer.MAX_VALUE};

    private LatticeTest() {
    }

    public static void main(String[] args) {
        ring();
        ringOfTen();
        twoRings();
        noRotation();
        manyPlaces();
        unstable();
        numbering();
        fairest();
        limits();
        byAllOrders();
        Check.end();
    }

    private static String rotation(StablepairBureau x, int index) {
        StringBuilder row = new StringBuilder();
        for (int place = 0; place < x.rotationLength(index); place++) {
            row.append(place == 0 ? "" : " ").append(x.rotationAt(index, place));
        }
        return row.toString();
    }

    private static void ring() {
        StablepairBureau x = Markets.three();
        x.run('p');
        Check.quiet("one rotation", 1, x, x::rotations);
        Check.quiet("of all", 3, x, () -> x.rotationLength(0));
        Check.due("in the order of next ones", "0 1 2", rotation(x, 0));
        for (int index : new int[] {-1, 1, 10, Integer.MIN_VALUE, Integer.MAX_VALUE}) {
            Check.thrown("rotationLength " + index, INDEX, x, () -> x.rotationLength(index));
            Check.thrown("rotationAt " + index, INDEX, x, () -> x.rotationAt(index, 0));
            Check.thrown("turn " + index, INDEX, x, () -> x.turn(index));
        }
        for (int place : new int[] {-1, 3, 10, Integer.MIN_VALUE, Integer.MAX_VALUE}) {
            Check.thrown("rotationAt 0 " + place, INDEX, x, () -> x.rotationAt(0, place));
        }
        Check.due("turn", 1, x.turn(0));
        Check.due("turned", "1 2 0", Check.homes(x));
        Check.due("stable", true, x.isStable());
        Check.due("turn again", 0, x.turn(0));
        Check.due("turned again", "2 0 1", Check.homes(x));
        Check.thrown("none is left", INDEX, x, () -> x.turn(0));
        // The other way round: 0 comes to the house of 2, 2 to that of 1, 1 to that of 0.
        StablepairBureau y = Check.bureau("0>2 1>0 2>1", "1>0 2>1 0>2");
        y.run('p');
        Check.due("not in the order of numbers", "0 2 1", rotation(y, 0));
    }

    /** Ten, each one's list going round from its own number: all are in one ring, nine times. */
    private static void ringOfTen() {
        StablepairBureau x = Markets.round(10);
        x.run('p');
        for (int turned = 0; turned < 9; turned++) {
            Check.due("one rotation", 1, x.rotations());
            Check.due("of ten", "0 1 2 3 4 5 6 7 8 9", rotation(x, 0));
            Check.due("turn", turned < 8 ? 1 : 0, x.turn(0));
        }
        Check.due("the houses' best", "9 0 1 2 3 4 5 6 7 8", Check.homes(x));
        Check.due("ten stable ones", 10, x.stables());
        Check.due("gain", 0, x.gain(0));
        Check.due("cutFor", 1, x.cutFor(0));
    }

    private static void twoRings() {
        // Persons 1 and 4 change houses, and so do 0, 2 and 3; person 5 is alone in its house.
        StablepairBureau x = Check.bureau("0>2 1>4 2>3 3>0 4>1 5", "3>0 4>1 0>2 2>3 1>4 5");
        x.run('p');
        Check.due("two rotations", 2, x.rotations());
        Check.due("by their lowest ones", "0 2 3", rotation(x, 0));
        Check.due("by their lowest ones", "1 4", rotation(x, 1));
        Check.due("length", 3, x.rotationLength(0));
        Check.due("length", 2, x.rotationLength(1));
        Check.thrown("a third one", INDEX, x, () -> x.rotationLength(2));
        Check.thrown("place of the second", INDEX, x, () -> x.rotationAt(1, 2));
        Check.due("turn the second", 1, x.turn(1));
        Check.due("turned", "0 4 2 3 1 5", Check.homes(x));
        Check.due("the first is left", "0 2 3", rotation(x, 0));
        Check.due("turn it", 0, x.turn(0));
        Check.due("turned", "2 4 3 0 1 5", Check.homes(x));
        Check.due("four in all", 4, x.stables());
    }

    private static void noRotation() {
        // Person 0 would come to the house 1, which is not full: it has no next house, and no ring is there.
        StablepairBureau x = Check.bureau("0>1>2 2>0", "1>0 0 0>1");
        x.run('p');
        Check.due("homes", "0 2", Check.homes(x));
        Check.due("no rotation", 0, x.rotations());
        Check.due("one stable pairing", 1, x.stables());
        // Person 2 leads into the ring of 0 and 1, but is not in it.
        StablepairBureau y = Check.bureau("0>1 1>0 2>0", "2>1>0 0>1 2");
        y.run('p');
        Check.due("homes", "0 1 2", Check.homes(y));
        Check.due("one rotation", 1, y.rotations());
        Check.due("of two", "0 1", rotation(y, 0));
        StablepairBureau z = new StablepairBureau();
        Check.due("rotations of none", 0, z.rotations());
        Check.thrown("rotationLength of none", INDEX, z, () -> z.rotationLength(0));
        Check.due("stables of none", 1, z.stables());
        Check.due("stableAt of none", 0, z.stableAt(0));
        Check.due("fairest of none", 0, z.fairest('s'));
        Check.due("worst of none", 0, z.fairest('w'));
    }

    private static void manyPlaces() {
        // House 0 holds 0 and 1, of whom 1 is the last; 2 in the house 1 changes with it.
        StablepairBureau x = Check.bureau("0>1 0>1 1>0", "2>0>1 1>2>0");
        x.places(0, 2);
        x.run('p');
        Check.due("homes", "0 0 1", Check.homes(x));
        Check.due("one rotation", "1 2", rotation(x, 0));
        Check.due("turn", 0, x.turn(0));
        Check.due("turned", "0 1 0", Check.homes(x));
        Check.due("two stable ones", 2, x.stables());
    }

    private static void unstable() {
        StablepairBureau x = Markets.three();
        Check.thrown("rotations", STATE, x, x::rotations);
        for (int index : FAR) {
            Check.thrown("rotationLength", STATE, x, () -> x.rotationLength(index));
            Check.thrown("rotationAt", STATE, x, () -> x.rotationAt(index, index));
            Check.thrown("turn", STATE, x, () -> x.turn(index));
        }
        x.run('p');
        x.part(1);
        Check.thrown("rotations, one alone", STATE, x, x::rotations);
        Check.thrown("turn, one alone", STATE, x, () -> x.turn(0));
    }

    private static void numbering() {
        StablepairBureau x = Markets.three();
        x.pair(0, 1);
        Check.quiet("stables", 3, x, x::stables);
        String[] all = {"0 1 2", "1 2 0", "2 0 1"};
        for (int index = 0; index < 3; index++) {
            Check.due("stableAt", 3, x.stableAt(index));
            Check.due("its pairs", all[index], Check.homes(x));
            Check.due("stable", true, x.isStable());
        }
        for (int index : new int[] {-1, 3, 60, Integer.MIN_VALUE, Integer.MAX_VALUE}) {
            Check.thrown("stableAt " + index, INDEX, x, () -> x.stableAt(index));
        }
        // The persons' best one is the last by numbers here; person 0 is alone in each.
        StablepairBureau y = Check.bureau("2 1>0 0>1 -", "1>2 2>1 -");
        y.run('p');
        Check.due("two", 2, y.stables());
        Check.due("paired", 2, y.stableAt(0));
        Check.due("first", "-1 0 1 -1", Check.homes(y));
        Check.due("paired", 2, y.stableAt(1));
        Check.due("second", "-1 1 0 -1", Check.homes(y));
    }

    private static void fairest() {
        StablepairBureau x = Markets.three();
        Check.due("by the sum", 6, x.fairest('s'));
        Check.due("the first of equal ones", "0 1 2", Check.homes(x));
        Check.due("by the greatest", 1, x.fairest('w'));
        Check.due("the one in the midst", "1 2 0", Check.homes(x));
        for (char wrong : new char[] {'x', 'p', 'S', 0, 65535}) {
            Check.thrown("fairest " + (int) wrong, ARGUMENT, x, () -> x.fairest(wrong));
        }
        // Persons' best: places 0 0 and 2 2; houses' best: 1 1 and 0 0.
        StablepairBureau y = Check.bureau("0>1 1>0 -", "1>2>0 0>2>1");
        Check.due("sum 2", 2, y.fairest('s'));
        Check.due("houses' best", "1 0 -1", Check.homes(y));
        Check.due("greatest 1", 1, y.fairest('w'));
        Check.due("houses' best again", "1 0 -1", Check.homes(y));
        StablepairBureau z = Check.bureau("0 -", "-");
        z.add('h');
        Check.due("none is paired", 0, z.fairest('s'));
        Check.due("none is paired", 0, z.fairest('w'));
    }

    private static void limits() {
        String[] ten = Markets.TEN_OF_FOUR;
        String[] three = Markets.THREE_OF_THREE;
        String[] two = Markets.TWO_OF_TWO;
        StablepairBureau x = Markets.beside(ten, three, two);
        Check.due("sixty", 60, x.stables());
        Check.due("all are paired", 9, x.stableAt(59));
        Check.due("the last one", "3 2 1 0 6 4 5 8 7", Check.homes(x));
        Check.thrown("none behind it", INDEX, x, () -> x.stableAt(60));
        Check.due("fairest of sixty, all alike", 20, x.fairest('s'));
        Check.due("the first one", "0 1 2 3 4 5 6 7 8", Check.homes(x));
        Check.due("fairest of sixty by the greatest", 2, x.fairest('w'));
        tooMany(Markets.beside(three, two, two, three), 36);
        tooMany(Markets.beside(two, two, two, two, two), 32);
        tooMany(Markets.beside(ten, three, three), 90);
        tooMany(Markets.beside(ten, ten), 100);
    }

    private static void byAllOrders() {
        int[] many = {59, 60, 61};
        for (int k = 0; k < many.length; k++) {
            StablepairBureau x = Markets.ofEight(many[k]);
            List<String> stable = new ArrayList<>();
            for (int[] homes : orders(8)) {
                if (holdsTogether(x, homes)) {
                    stable.add(row(homes));
                }
            }
            Check.due("found by trying all", many[k], stable.size());
            Check.due("true", true, x.isTrue());
            if (many[k] > 60) {
                tooMany(x, many[k]);
                continue;
            }
            Check.due("stables", many[k], x.stables());
            for (int index = 0; index < many[k]; index++) {
                Check.due("stableAt", 8, x.stableAt(index));
                Check.due("its pairs", stable.get(index), Check.homes(x));
            }
            Check.thrown("none behind the last one", INDEX, x, () -> x.stableAt(stable.size()));
        }
    }

    private static String row(int[] homes) {
        StringBuilder row = new StringBuilder();
        for (int home : homes) {
            row.append(row.length() == 0 ? "" : " ").append(home);
        }
        return row.toString();
    }

    /** All orders of the numbers below a bound, the lowest ones first. */
    private static List<int[]> orders(int bound) {
        List<int[]> all = new ArrayList<>();
        order(new int[bound], 0, 0, all);
        return all;
    }

    private static void order(int[] row, int at, int used, List<int[]> all) {
        if (at == row.length) {
            all.add(row.clone());
        }
        for (int number = 0; number < row.length && at < row.length; number++) {
            if ((used >> number & 1) == 0) {
                row[at] = number;
                order(row, at + 1, used | 1 << number, all);
            }
        }
    }

    private static boolean holdsTogether(StablepairBureau x, int[] homes) {
        for (int person = 0; person < homes.length; person++) {
            for (int other = 0; other < homes.length; other++) {
                int house = homes[other];
                if (x.rank('p', person, house) < x.rank('p', person, homes[person])
                        && x.rank('h', house, person) < x.rank('h', house, other)) {
                    return false;
                }
            }
        }
        return true;
    }

    private static void tooMany(StablepairBureau x, int stables) {
        x.run('h');
        if (stables <= 60) {
            Check.due("stables", stables, x.stables());
            return;
        }
        Check.thrown("stables " + stables, CANNOT, x, x::stables);
        for (int index : new int[] {0, 59, 60, -1, Integer.MIN_VALUE, Integer.MAX_VALUE}) {
            Check.thrown("stableAt " + index + " of " + stables, CANNOT, x, () -> x.stableAt(index));
        }
        Check.thrown("fairest of " + stables, CANNOT, x, () -> x.fairest('s'));
        Check.thrown("wrong kind, and too many", ARGUMENT, x, () -> x.fairest('x'));
        Check.due("no rotation is left by the houses' offers", 0, x.rotations());
        Check.due("and is true", true, x.isTrue());
    }
}
