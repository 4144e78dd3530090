import java.math.BigInteger;
import java.util.ArrayList;
import java.util.List;

/** The boundaries of promises 50 to 53 (meanRank to isTrue), of the term "Exceptions", and of 512 calls. */
final class FigureBounds extends Bounds {
    private static final String BACK = "9>8>7>6>5>4>3>2>1>0";

    private FigureBounds() {
    }

    static void all() {
        meanRank();
        pairedShare();
        checksum();
        checksumParts();
        isTrue();
        refusedCalls();
        documentedFirst();
        lastCall();
    }

    private static String ten(String list) {
        return (list + " ").repeat(10).trim();
    }

    /** Ten of each who list all backwards, and so many pairs of the same numbers. */
    private static StablepairBureau pairs(int many) {
        StablepairBureau x = Check.bureau(ten(BACK), ten(BACK));
        for (int number = 0; number < many; number++) {
            x.pair(number, number);
        }
        return x;
    }

    private static void meanRank() {
        Doc.says(50, "Returns the mean place at which those who are paired stand on lists",
                "Returns the sum of the places divided by the number of pairs, both converted to double",
                "`side`: 'p' on the lists of persons, 'h' on those of houses");
        int sum = 0;
        for (int many = 1; many <= 10; many++) {
            sum += 10 - many;
            double mean = (double) sum / (double) many;
            StablepairBureau x = pairs(many);
            Check.quiet("of persons, " + many, mean, x, () -> x.meanRank('p'));
            Check.quiet("of houses, " + many, mean, x, () -> x.meanRank('h'));
        }
        StablepairBureau y = Check.bureau("9>8>7>6>5>4>3>2>1>0", "- - - - - - - - - 0");
        y.run('p');
        Check.due("the first place", 0.0, y.meanRank('p'));
        StablepairBureau z = Check.bureau("1>0 - 0", "1>2>0 0");
        z.pair(0, 0);
        Check.due("the second place", 1.0, z.meanRank('p'));
        Check.due("the third place", 2.0, z.meanRank('h'));
        z.pair(0, 1);
        z.pair(2, 0);
        Check.due("both at the first places", 0.0, z.meanRank('p'));
        Check.due("a half", 0.5, z.meanRank('h'));
        Doc.says(50, "Throws `IllegalArgumentException` if there is no such side, or it is that of mates");
        noSide(Twin::busy, StablepairBureau::meanRank);
        noSide(StablepairBureau::new, StablepairBureau::meanRank);
        Twin.refused("mates", ARGUMENT, Twin::busy, x -> x.meanRank('m'));
        Twin.refused("mates, no pairs", ARGUMENT, () -> of(2, 2, 2), x -> x.meanRank('m'));
        Doc.says(50, "Throws `ArithmeticException` if there are no pairs");
        for (char side : new char[] {'p', 'h'}) {
            Twin.refused("a new object", DIVISION, StablepairBureau::new, x -> x.meanRank(side));
            Twin.refused("all are alone", DIVISION, () -> pairs(0), x -> x.meanRank(side));
            Twin.refused("the only pair was let go", DIVISION, FigureBounds::parted, x -> x.meanRank(side));
            Twin.refused("all were let go", DIVISION, FigureBounds::begun, x -> x.meanRank(side));
        }
    }

    private static StablepairBureau parted() {
        StablepairBureau x = pairs(1);
        x.part(0);
        return x;
    }

    private static StablepairBureau begun() {
        StablepairBureau x = pairs(3);
        x.begin('h');
        return x;
    }

    private static void pairedShare() {
        Doc.says(51, "Returns the share of persons who are paired",
                "Returns their number divided by that of all persons, both converted to float");
        for (int all = 1; all <= 10; all++) {
            for (int many = 0; many <= all; many++) {
                StablepairBureau x = of(all, 10, 0);
                for (int person = 0; person < many; person++) {
                    Check.read(x, 'p', person, "" + person);
                    Check.read(x, 'h', person, "" + person);
                }
                x.run('p');
                Check.quiet(many + " of " + all, (float) many / (float) all, x, x::pairedShare);
            }
        }
        Doc.says(51, "Throws `ArithmeticException` if there are no persons");
        Twin.refused("a new object", DIVISION, StablepairBureau::new, StablepairBureau::pairedShare);
        Twin.refused("houses and mates", DIVISION, () -> of(0, 10, 10), StablepairBureau::pairedShare);
        Check.due("one person", 0.0f, of(1, 0, 0).pairedShare());
    }

    /** What the document says, in whole numbers without a bound, and then cut to a long. */
    private static long sum(List<Integer> parts) {
        BigInteger sum = BigInteger.valueOf(7);
        for (int part : parts) {
            sum = sum.multiply(BigInteger.valueOf(31)).add(BigInteger.valueOf(part));
        }
        return sum.longValue();
    }

    private static List<Integer> parts(StablepairBureau x, int[] places, int[] leasts, int[] gifts, String text) {
        List<Integer> all = new ArrayList<>();
        for (char side : SIDES) {
            for (int who = 0; who < x.many(side); who++) {
                all.add(x.length(side, who));
                for (int place = 0; place < x.length(side, who); place++) {
                    all.add(x.wish(side, who, place));
                }
            }
        }
        for (int house = 0; house < x.many('h'); house++) {
            all.add(places[house]);
            all.add(leasts[house]);
        }
        for (int person = 0; person < x.many('p'); person++) {
            all.add(x.houseOf(person));
        }
        for (int pair = 0; pair < 81; pair++) {
            if (pair / 9 != pair % 9) {
                int could = 0;
                for (int gift : gifts) {
                    could = gift == 10 * (pair / 9) + pair % 9 ? 1 : could;
                }
                all.add(could);
            }
        }
        for (char sign : text.toCharArray()) {
            all.add((int) sign);
        }
        return all;
    }

    private static void checksum() {
        Doc.says(52, "Returns a sum over all, a long that goes round");
        StablepairBureau full = pairs(10);
        for (int mate = 0; mate < 10; mate++) {
            full.add('m');
            full.places(mate, 4);
            full.least(mate, 4);
        }
        full.run('p');
        Check.type(full, "~".repeat(60));
        int[] fours = {4, 4, 4, 4, 4, 4, 4, 4, 4, 4};
        List<Integer> all = parts(full, fours, fours, new int[] {}, "~".repeat(60));
        Check.due("more than three hundred parts", true, all.size() > 300);
        Check.quiet("goes round", sum(all), full, full::checksum);
        Doc.says(52, "Returns 7 at first");
        Check.quiet("without one, 72 times nothing comes", sum(parts(new StablepairBureau(), fours, fours, new int[] {}, "")),
                new StablepairBureau(), () -> new StablepairBureau().checksum());
    }

    private static void checksumParts() {
        int[] places = {1, 2, 1};
        int[] leasts = {1, 4, 0};
        int[] gifts = {1, 10};
        StablepairBureau x = Twin.busy();
        Doc.says(52, "then, by 31 times itself plus each of these: for each person, house and mate, in this order, how long its "
                + "list is, then the numbers on it");
        Check.quiet("one of everything", sum(parts(x, places, leasts, gifts, "0>1")), x, x::checksum);
        x.cut('m', 2, 1);
        x.cut('h', 2, 0);
        x.cut('p', 3, 2);
        Check.quiet("shorter lists", sum(parts(x, places, leasts, gifts, "0>1")), x, x::checksum);
        Doc.says(52, "for each house its places, then its least number");
        x.places(2, 4);
        x.least(2, 3);
        Check.quiet("of the last house", sum(parts(x, new int[] {1, 2, 4}, new int[] {1, 4, 3}, gifts, "0>1")), x, x::checksum);
        x.least(2, 0);
        x.places(2, 1);
        Doc.says(52, "for each person its house, or -1");
        Check.quiet("all are alone", sum(parts(x, places, leasts, gifts, "0>1")), x, x::checksum);
        x.pair(0, 0);
        x.pair(3, 1);
        Check.quiet("two are paired", sum(parts(x, places, leasts, gifts, "0>1")), x, x::checksum);
        Doc.says(52, "for each couple and each other one, by numbers, 1 if it can give to it, else 0");
        x.give(0, 1, false);
        x.give(8, 7, true);
        x.give(0, 8, true);
        x.give(8, 0, true);
        Check.quiet("gifts", sum(parts(x, places, leasts, new int[] {10, 87, 8, 80}, "0>1")), x, x::checksum);
        Doc.says(52, "for each sign of the text its code");
        x.type(' ');
        x.type('~');
        Check.quiet("signs", sum(parts(x, places, leasts, new int[] {10, 87, 8, 80}, "0>1 ~")), x, x::checksum);
        x.erase();
        Check.quiet("no signs", sum(parts(x, places, leasts, new int[] {10, 87, 8, 80}, "")), x, x::checksum);
    }

    private static void isTrue() {
        Doc.says(53, "Nothing is changed by that", "Returns whether it is so");
        Twin.asked("a new object", true, StablepairBureau::new, StablepairBureau::isTrue);
        Twin.asked("without lists", true, () -> of(10, 10, 10), StablepairBureau::isTrue);
        Twin.asked("offers on their way", true, Twin::busy, StablepairBureau::isTrue);
        Twin.asked("ten pairs, not stable", true, () -> pairs(9), StablepairBureau::isTrue);
        Twin.asked("as many as can be", true, () -> Markets.round(10), StablepairBureau::isTrue);
        for (int stables = 59; stables <= 61; stables++) {
            int many = stables;
            Twin.asked(stables + " stable ones", true, () -> Markets.ofEight(many), StablepairBureau::isTrue);
        }
    }

    private static void refusedCalls() {
        Doc.terms("A method that throws an exception changes nothing");
        StablepairBureau x = Twin.busy();
        Twin.Use[] refused = {y -> y.add('x'), y -> y.many('x'), y -> y.places(3, 1), y -> y.places(0, 5),
            y -> y.least(3, 1), y -> y.least(0, 5), y -> y.type((char) 127), y -> y.signAt(3), y -> y.read('x', 0),
            y -> y.read('p', 4), y -> y.length('h', 3), y -> y.wish('p', 0, 3), y -> y.rank('m', 4, 0),
            y -> y.cut('p', 0, 4), y -> y.begin('m'), y -> y.offer(4), y -> y.offer(3), y -> y.run('m'), y -> y.offerAt(3),
            y -> y.resultAt(3), y -> y.pair(4, 0), y -> y.pair(0, 3), y -> y.pair(0, 0), y -> y.part(4), y -> y.houseOf(4),
            y -> y.held(3), y -> y.heldAt(0, 1), y -> y.blockAt(99), y -> y.filled(3), y -> y.lacks(3),
            StablepairBureau::rotations, y -> y.rotationLength(0), y -> y.rotationAt(0, 0), y -> y.turn(0),
            y -> y.stableAt(99), y -> y.fairest('x'), y -> y.gain(1), y -> y.gain(3), y -> y.cutFor(1), y -> y.lie(4),
            y -> y.without(4), y -> y.withoutHouse(3), y -> y.roomOf(0), y -> y.roomOf(4), StablepairBureau::trade,
            y -> y.tradeOf(0), y -> y.tradeRound(0), y -> y.give(9, 0, true), y -> y.helped(4), y -> y.meanRank('m')};
        for (int k = 0; k < refused.length; k++) {
            Check.due("refused " + k, true, Twin.answer(x, refused[k]) instanceof Class);
        }
        Check.due("as if none of them had been made", Twin.future(Twin.busy()), Twin.future(x));
    }

    private static void documentedFirst() {
        Doc.terms("If several exceptions apply, the one that is documented first is thrown");
        Twin.Maker full = () -> of(10, 10, 10);
        Twin.refused("add: no such side, ten of all", ARGUMENT, full, x -> x.add('x'));
        Twin.refused("places: no such house, out of range", ABSENT, full, x -> x.places(10, 0));
        Twin.refused("least: no such house, out of range", ABSENT, full, x -> x.least(10, 5));
        Twin.refused("type: wrong code, sixty signs", ARGUMENT, FigureBounds::sixty, x -> x.type((char) 31));
        Twin.refused("read: no such side, no such one", ARGUMENT, full, x -> x.read('x', 10));
        Twin.refused("length: no such side, no such one", ARGUMENT, full, x -> x.length('x', 10));
        Twin.refused("wish: no such side, one, place", ARGUMENT, full, x -> x.wish('x', 10, 10));
        Twin.refused("wish: no such one, place", ABSENT, full, x -> x.wish('p', 10, 10));
        Twin.refused("rank: no such side, no such one", ARGUMENT, full, x -> x.rank('x', 10, 10));
        Twin.refused("cut: no such side, one, length", ARGUMENT, full, x -> x.cut('x', 10, 11));
        Twin.refused("cut: no such one, length", ABSENT, full, x -> x.cut('h', 10, 11));
        Twin.refused("offer: not begun, no such one", STATE, full, x -> x.offer(10));
        Twin.refused("offer: not begun, it can make none", STATE, full, x -> x.offer(0));
        Twin.refused("pair: no such person, house", ABSENT, full, x -> x.pair(10, 10));
        Twin.refused("pair: no such person, not listed", ABSENT, full, x -> x.pair(10, 0));
        Twin.refused("pair: not listed, full", ARGUMENT, FigureBounds::fullHouse, x -> x.pair(1, 0));
        Twin.refused("heldAt: no such house, place", ABSENT, full, x -> x.heldAt(10, 10));
        Twin.refused("rotationLength: not stable, no such one", STATE, Markets::three, x -> x.rotationLength(9));
        Twin.refused("rotationAt: not stable, no such one", STATE, Markets::three, x -> x.rotationAt(9, 9));
        Twin.refused("turn: not stable, no such one", STATE, Markets::three, x -> x.turn(9));
        Twin.refused("stableAt: too many, no such one", CANNOT, () -> Markets.ofEight(61), x -> x.stableAt(99));
        Twin.refused("fairest: no such kind, too many", ARGUMENT, () -> Markets.ofEight(61), x -> x.fairest('x'));
        Twin.refused("roomOf: no such mate, too many", ABSENT, full, x -> x.roomOf(10));
        Twin.refused("roomOf: too many, none is stable", CANNOT, FigureBounds::nineUnstable, x -> x.roomOf(0));
        Twin.refused("roomOf: no such mate, none is stable", ABSENT, () -> Check.mates("1>2 2>0 0>1"), x -> x.roomOf(3));
        Twin.refused("tradeOf: no such person, unlike", ABSENT, () -> of(9, 10, 0), x -> x.tradeOf(9));
        Twin.refused("tradeRound: no such person, unlike", ABSENT, () -> of(9, 10, 0), x -> x.tradeRound(9));
        Twin.refused("meanRank: mates, no pairs", ARGUMENT, full, x -> x.meanRank('m'));
    }

    private static StablepairBureau sixty() {
        StablepairBureau x = new StablepairBureau();
        Check.type(x, " ".repeat(60));
        return x;
    }

    private static StablepairBureau fullHouse() {
        StablepairBureau x = Check.bureau("0 0", "0");
        x.pair(0, 0);
        return x;
    }

    private static StablepairBureau nineUnstable() {
        StablepairBureau x = Check.mates("1>2 2>0 0>1");
        for (int mate = 3; mate < 9; mate++) {
            x.add('m');
        }
        return x;
    }

    private static void lastCall() {
        Doc.terms("An object is used for at most 512 calls after it has been made");
        StablepairBureau x = new StablepairBureau();
        x.add('p');
        x.add('h');
        for (char side : new char[] {'p', 'h'}) {
            x.type('0');
            x.read(side, 0);
        }
        int calls = 6;
        while (calls < 510) {
            Check.due("run, call " + calls, 1, x.run(calls % 2 == 0 ? 'p' : 'h'));
            Check.due("turned down", INDEX, Twin.answer(x, y -> y.turn(0)));
            calls += 2;
        }
        Check.due("the 511th call", 0, x.part(0));
        Check.due("the 512th call", "0", "" + x.blockAt(0));
    }
}
