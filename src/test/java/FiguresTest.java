/** Promises 50 to 53: figures. */
final class FiguresTest {
    private static final Class<IllegalArgumentException> ARGUMENT = IllegalArgumentException.class;
    private static final Class<ArithmeticException> NONE = ArithmeticException.class;

    private FiguresTest() {
    }

    public static void main(String[] args) {
        means();
        shares();
        checksums();
        truth();
        Check.end();
    }

    private static void means() {
        StablepairBureau x = Check.bureau("0>1>2 0>1>2 0>1>2", "2>1>0 2>1>0 2>1>0");
        Check.thrown("no pairs", NONE, x, () -> x.meanRank('p'));
        Check.thrown("no pairs", NONE, x, () -> x.meanRank('h'));
        for (char wrong : new char[] {'m', 'x', 'P', 0, 65535}) {
            Check.thrown("meanRank " + (int) wrong, ARGUMENT, x, () -> x.meanRank(wrong));
        }
        x.pair(0, 2);
        Check.due("one pair", 2.0, x.meanRank('p'));
        Check.due("one pair", 2.0, x.meanRank('h'));
        x.pair(1, 0);
        Check.due("two pairs", 1.0, x.meanRank('p'));
        Check.due("two pairs", 1.5, x.meanRank('h'));
        x.pair(2, 1);
        Check.quiet("three pairs", 1.0, x, () -> x.meanRank('p'));
        Check.quiet("three pairs", 1.0, x, () -> x.meanRank('h'));
        StablepairBureau y = Check.bureau("0 0 1>0", "1>2>0 0>2");
        y.places(0, 3);
        y.run('p');
        Check.due("all have their best ones", 0.0, y.meanRank('p'));
        Check.due("a mean of houses", 1.0, y.meanRank('h'));
        y.part(2);
        y.pair(2, 0);
        Check.due("a third", 1.0 / 3.0, y.meanRank('p'));
        Check.due("three thirds", 1.0, y.meanRank('h'));
    }

    private static void shares() {
        StablepairBureau x = new StablepairBureau();
        Check.thrown("no persons", NONE, x, x::pairedShare);
        x.add('h');
        Check.thrown("no persons, a house", NONE, x, x::pairedShare);
        x.add('p');
        Check.quiet("none is paired", 0.0f, x, x::pairedShare);
        StablepairBureau y = Check.bureau("0 - 0", "0>2");
        y.run('p');
        Check.due("a third", 1.0f / 3.0f, y.pairedShare());
        y.places(0, 2);
        y.run('h');
        Check.due("two thirds", 2.0f / 3.0f, y.pairedShare());
        StablepairBureau z = Check.bureau("0 0", "0>1");
        z.places(0, 2);
        z.run('p');
        Check.due("all", 1.0f, z.pairedShare());
    }

    private static long sum(int... numbers) {
        long sum = 7;
        for (int number : numbers) {
            sum = 31 * sum + number;
        }
        return sum;
    }

    private static long withGifts(long sum, int... ones) {
        long next = sum;
        for (int k = 0; k < 72; k++) {
            int bit = 0;
            for (int one : ones) {
                bit = one == k ? 1 : bit;
            }
            next = 31 * next + bit;
        }
        return next;
    }

    private static void checksums() {
        StablepairBureau x = new StablepairBureau();
        Check.quiet("of a new one", withGifts(7), x, x::checksum);
        x.add('p');
        Check.due("a person", withGifts(sum(0, -1)), x.checksum());
        x.add('h');
        Check.due("a house", withGifts(sum(0, 0, 1, 0, -1)), x.checksum());
        x.add('m');
        Check.due("a mate", withGifts(sum(0, 0, 0, 1, 0, -1)), x.checksum());
        x.add('m');
        x.add('p');
        x.add('h');
        Check.read(x, 'p', 1, "1>0");
        Check.read(x, 'h', 1, "1");
        Check.read(x, 'm', 0, "1");
        x.places(0, 3);
        x.least(0, 2);
        x.least(1, 4);
        long lists = sum(0, 2, 1, 0, 0, 1, 1, 1, 1, 0, 3, 2, 1, 4, -1, -1);
        Check.due("lists", withGifts(lists), x.checksum());
        x.run('p');
        long pairs = sum(0, 2, 1, 0, 0, 1, 1, 1, 1, 0, 3, 2, 1, 4, -1, 1);
        Check.due("pairs", withGifts(pairs), x.checksum());
        x.give(0, 1, true);
        x.give(1, 0, true);
        x.give(8, 7, true);
        x.give(3, 8, true);
        Check.due("gifts", withGifts(pairs, 0, 8, 71, 31), x.checksum());
        x.give(1, 0, false);
        Check.type(x, "9~");
        Check.due("the text", 31 * (31 * withGifts(pairs, 0, 71, 31) + '9') + '~', x.checksum());
        x.begin('h');
        long alone = withGifts(lists, 0, 71, 31);
        Check.due("offers are not in it", 31 * (31 * alone + '9') + '~', x.checksum());
    }

    private static void truth() {
        String[][] markets = {{"", ""}, {"0", "-"}, {"0>1>2 1>2>0 2>0>1", "1>2>0 2>0>1 0>1>2"},
            {"0>1 0 1>0 0>1", "3>2>0>1 2>0>1"}, {"0>2 1>4 2>3 3>0 4>1 5", "3>0 4>1 0>2 2>3 1>4 5"}};
        for (String[] lists : markets) {
            StablepairBureau x = Check.bureau(lists[0], lists[1]);
            Check.quiet("isTrue", true, x, x::isTrue);
            for (int house = 0; house < x.many('h'); house++) {
                x.places(house, 1 + house % 4);
            }
            x.run('h');
            Check.type(x, "0>1");
            Check.quiet("isTrue, offers begun", true, x, x::isTrue);
            if (x.many('p') > 0) {
                x.part(0);
            }
            Check.quiet("isTrue, whatever the pairing is", true, x, x::isTrue);
            x.begin('p');
            Check.quiet("isTrue, offers open", true, x, x::isTrue);
        }
    }
}
