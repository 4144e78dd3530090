/** Promises 1 to 13: sides, the text, lists. */
final class SidesTest {
    private static final Class<IllegalArgumentException> ARGUMENT = IllegalArgumentException.class;
    private static final Class<IllegalStateException> STATE = IllegalStateException.class;
    private static final Class<IndexOutOfBoundsException> INDEX = IndexOutOfBoundsException.class;
    private static final Class<java.util.NoSuchElementException> ABSENT = java.util.NoSuchElementException.class;
    private static final char[] SIDES = {'p', 'h', 'm'};

    private SidesTest() {
    }

    public static void main(String[] args) {
        newObject();
        adding();
        placesAndLeast();
        text();
        reading();
        faults();
        lists();
        cutting();
        Check.end();
    }

    private static void newObject() {
        StablepairBureau x = new StablepairBureau();
        for (char side : SIDES) {
            Check.due("new many " + side, 0, x.many(side));
            Check.thrown("new length " + side, ABSENT, x, () -> x.length(side, 0));
        }
        Check.due("new erase", 0, x.erase());
        Check.due("new offers", 0, x.offers());
        Check.due("new blocks", 0, x.blocks());
        Check.due("new isStable", true, x.isStable());
        Check.thrown("new open", STATE, x, x::open);
        Check.thrown("new meanRank", ArithmeticException.class, x, () -> x.meanRank('p'));
        Check.thrown("new meanRank", ArithmeticException.class, x, () -> x.meanRank('h'));
        Check.thrown("new pairedShare", ArithmeticException.class, x, x::pairedShare);
        long sum = 7;
        for (int k = 0; k < 72; k++) {
            sum *= 31;
        }
        Check.due("new checksum", sum, x.checksum());
    }

    private static void adding() {
        for (char side : SIDES) {
            StablepairBureau x = new StablepairBureau();
            for (int number = 0; number < 10; number++) {
                Check.due("add " + side, number, x.add(side));
                Check.due("many " + side, number + 1, x.many(side));
                Check.due("length of a new one", 0, x.length(side, number));
            }
            Check.thrown("an eleventh " + side, STATE, x, () -> x.add(side));
            for (char other : SIDES) {
                Check.due("many " + other, other == side ? 10 : 0, x.many(other));
            }
        }
        StablepairBureau x = Check.bureau("0", "0");
        for (char wrong : new char[] {'x', 'P', 'H', 'M', 0, 'q', 'g', 65535}) {
            Check.thrown("add " + (int) wrong, ARGUMENT, x, () -> x.add(wrong));
            Check.thrown("many " + (int) wrong, ARGUMENT, x, () -> x.many(wrong));
        }
        for (char side : SIDES) {
            x.run('p');
            Check.due("paired ahead of add", 0, x.houseOf(0));
            x.add(side);
            Check.due("add lets go", -1, x.houseOf(0));
            Check.due("add ends offers", "no offers have begun", Check.canOffer(x));
            Check.due("offers are still told", "0h", Check.offersMade(x));
        }
        StablepairBureau y = Check.bureau("0", "0");
        for (int k = 1; k < 10; k++) {
            y.add('p');
        }
        y.run('p');
        Check.thrown("an eleventh while paired", STATE, y, () -> y.add('p'));
        Check.due("still paired", 0, y.houseOf(0));
    }

    private static void placesAndLeast() {
        StablepairBureau x = Check.bureau("0", "0 -");
        x.run('p');
        Check.due("least at first", 0, x.least(0, 4));
        Check.due("least later", 4, x.least(0, 0));
        Check.due("least keeps pairs", 0, x.houseOf(0));
        Check.due("least keeps offers", "open 0", Check.canOffer(x));
        Check.due("places at first", 1, x.places(1, 4));
        Check.due("places lets go", -1, x.houseOf(0));
        Check.due("places ends offers", "no offers have begun", Check.canOffer(x));
        Check.due("places later", 4, x.places(1, 1));
        Check.due("places are of one house", 1, x.places(0, 1));
        x.run('p');
        Check.due("places, the same as before", 1, x.places(0, 1));
        Check.due("places, the same, lets go", -1, x.houseOf(0));
        x.run('p');
        for (int wrong : new int[] {0, 5, -1, Integer.MIN_VALUE, Integer.MAX_VALUE}) {
            Check.thrown("places " + wrong, ARGUMENT, x, () -> x.places(0, wrong));
        }
        for (int wrong : new int[] {-1, 5, Integer.MIN_VALUE, Integer.MAX_VALUE}) {
            Check.thrown("least " + wrong, ARGUMENT, x, () -> x.least(0, wrong));
        }
        for (int house : new int[] {-1, 2, 10, Integer.MIN_VALUE, Integer.MAX_VALUE}) {
            Check.thrown("places of " + house, ABSENT, x, () -> x.places(house, 2));
            Check.thrown("least of " + house, ABSENT, x, () -> x.least(house, 2));
            Check.thrown("both wrong, places", ABSENT, x, () -> x.places(house, 9));
            Check.thrown("both wrong, least", ABSENT, x, () -> x.least(house, 9));
        }
    }

    private static void text() {
        StablepairBureau x = new StablepairBureau();
        for (char wrong : new char[] {0, 31, 127, 128, 255, 65535}) {
            Check.thrown("type " + (int) wrong, ARGUMENT, x, () -> x.type(wrong));
        }
        for (int k = 0; k < 60; k++) {
            Check.due("type", k + 1, x.type((char) (k < 30 ? 32 + k : 126 - (k - 30))));
        }
        Check.thrown("a sign too many", STATE, x, () -> x.type('0'));
        Check.thrown("a wrong sign too many", ARGUMENT, x, () -> x.type((char) 31));
        Check.due("signAt 0", ' ', x.signAt(0));
        Check.due("signAt 29", (char) 61, x.signAt(29));
        Check.due("signAt 30", '~', x.signAt(30));
        Check.due("signAt 59", (char) 97, x.signAt(59));
        for (int wrong : new int[] {-1, 60, Integer.MIN_VALUE, Integer.MAX_VALUE}) {
            Check.thrown("signAt " + wrong, INDEX, x, () -> x.signAt(wrong));
        }
        Check.due("erase", 60, x.erase());
        Check.due("erase again", 0, x.erase());
        Check.thrown("signAt, empty", INDEX, x, () -> x.signAt(0));
        x.type('a');
        Check.due("signAt, typed anew", 'a', x.signAt(0));
        Check.thrown("signAt 1", INDEX, x, () -> x.signAt(1));
    }

    private static StablepairBureau wide() {
        StablepairBureau x = new StablepairBureau();
        for (int k = 0; k < 10; k++) {
            x.add('p');
            x.add('h');
            x.add('m');
        }
        return x;
    }

    private static void readsAs(StablepairBureau x, String typed, String list) {
        int size = list.isEmpty() ? 0 : list.split(">").length;
        for (char side : new char[] {'p', 'h'}) {
            Check.due("read " + side + " " + typed, size, Check.read(x, side, 3, typed));
            Check.due("list of " + side + " " + typed, list, Check.list(x, side, 3));
            Check.due("read takes the text away", 0, x.erase());
        }
    }

    private static void reading() {
        StablepairBureau x = wide();
        readsAs(x, "", "");
        readsAs(x, "7", "7");
        readsAs(x, "9>0>5", "9>0>5");
        readsAs(x, "9=0=5", "0>5>9");
        readsAs(x, "9>5=0>7=6", "9>0>5>6>7");
        readsAs(x, "5=0>9", "0>5>9");
        readsAs(x, "8=7>6=5>4", "7>8>5>6>4");
        readsAs(x, "3=1>2=0", "1>3>0>2");
        readsAs(x, "007>08=1", "7>1>8");
        readsAs(x, "000000000000000000000000000000000000000000000000000000000009", "9");
        readsAs(x, "9=8=7=6=5=4=3=2=1=0", "0>1>2>3>4>5>6>7>8>9");
        readsAs(x, "9>8>7>6>5>4>3>2>1>0", "9>8>7>6>5>4>3>2>1>0");
        readsAs(x, "3", "3");
        Check.due("read m", 3, Check.read(x, 'm', 3, "9=2>4"));
        Check.due("list of m", "2>9>4", Check.list(x, 'm', 3));
        Check.due("list of another m", "", Check.list(x, 'm', 2));
        Check.due("list of p", "3", Check.list(x, 'p', 3));
        readsAs(x, "", "");
        Check.due("rank of one who went", -1, x.rank('p', 3, 3));
        StablepairBureau y = Check.bureau("0", "0");
        y.add('m');
        for (char side : SIDES) {
            y.run('p');
            Check.due("paired ahead of read", 0, y.houseOf(0));
            Check.read(y, side, 0, side == 'm' ? "" : "0");
            Check.due("read lets go", -1, y.houseOf(0));
            Check.due("read ends offers", "no offers have begun", Check.canOffer(y));
        }
    }

    private static void fault(StablepairBureau x, char side, int who, String typed, int fault) {
        String list = Check.list(x, side, who);
        String homes = Check.homes(x);
        String open = Check.canOffer(x);
        Check.due("read " + side + who + " " + typed, -1 - fault, Check.read(x, side, who, typed));
        Check.due("a fault takes the text away", 0, x.erase());
        Check.due("a fault keeps the list", list, Check.list(x, side, who));
        Check.due("a fault keeps the pairs", homes, Check.homes(x));
        Check.due("a fault keeps the offers", open, Check.canOffer(x));
    }

    private static void faults() {
        StablepairBureau x = Check.bureau("0>1 1 0", "0>1>2 1>0");
        for (int k = 0; k < 4; k++) {
            x.add('m');
        }
        Check.read(x, 'm', 2, "3>0");
        x.run('p');
        String[] signs = {">", "=", " ", "x", "-1", "~", ">0"};
        for (String text : signs) {
            fault(x, 'p', 0, text, 0);
        }
        fault(x, 'p', 0, "0>", 2);
        fault(x, 'p', 0, "0=", 2);
        fault(x, 'p', 0, "0>1>", 4);
        fault(x, 'p', 0, "0 >1", 1);
        fault(x, 'p', 0, "0> 1", 2);
        fault(x, 'p', 0, "0>>1", 2);
        fault(x, 'p', 0, "0>=1", 2);
        fault(x, 'p', 0, "0,1", 1);
        fault(x, 'p', 0, "0/1", 1);
        fault(x, 'p', 0, "0:1", 1);
        fault(x, 'p', 0, "2", 0);
        fault(x, 'h', 0, "3", 0);
        fault(x, 'p', 0, "2x", 0);
        fault(x, 'p', 0, "0x2", 1);
        fault(x, 'p', 0, "0>2", 2);
        fault(x, 'p', 0, "0>12>", 2);
        fault(x, 'p', 0, "0>0012x", 2);
        fault(x, 'p', 0, "0>0", 2);
        fault(x, 'p', 0, "1=01", 2);
        fault(x, 'p', 0, "0>1>0>", 4);
        fault(x, 'h', 0, "2=1=0=1", 6);
        fault(x, 'p', 0, "4294967296", 0);
        fault(x, 'p', 0, "4294967297", 0);
        fault(x, 'p', 0, "18446744073709551616", 0);
        fault(x, 'p', 0, "0>18446744073709551617", 2);
        fault(x, 'p', 0, "100000000000000000000000000000000000000000000000000000000000", 0);
        fault(x, 'm', 2, "2", 0);
        fault(x, 'm', 2, "0>2", 2);
        fault(x, 'm', 2, "0>3=4", 4);
        fault(x, 'm', 2, "0>3=0", 4);
        fault(x, 'm', 2, "10", 0);
        fault(x, 'm', 2, "0>3>", 4);
        StablepairBureau y = new StablepairBureau();
        y.add('p');
        y.add('m');
        fault(y, 'p', 0, "0", 0);
        fault(y, 'm', 0, "0", 0);
        Check.type(x, "0");
        for (char side : SIDES) {
            for (int who : new int[] {-1, 4, 10, Integer.MIN_VALUE, Integer.MAX_VALUE}) {
                Check.thrown("read " + side + who, ABSENT, x, () -> x.read(side, who));
            }
        }
        Check.thrown("read x", ARGUMENT, x, () -> x.read('x', 0));
        Check.thrown("read x99", ARGUMENT, x, () -> x.read('x', 99));
        Check.due("the text stays", 1, x.erase());
    }

    private static void lists() {
        StablepairBureau x = Check.bureau("2>0 -", "1 0>1 -");
        x.add('m');
        x.add('m');
        Check.read(x, 'm', 1, "0");
        Check.due("length p", 2, x.length('p', 0));
        Check.due("length p 1", 0, x.length('p', 1));
        Check.due("length h", 2, x.length('h', 1));
        Check.due("length m", 1, x.length('m', 1));
        Check.due("wish p", 2, x.wish('p', 0, 0));
        Check.due("wish p 1", 0, x.wish('p', 0, 1));
        Check.due("wish h", 1, x.wish('h', 1, 1));
        Check.due("wish m", 0, x.wish('m', 1, 0));
        Check.due("rank p", 0, x.rank('p', 0, 2));
        Check.due("rank p later", 1, x.rank('p', 0, 0));
        Check.due("rank p none", -1, x.rank('p', 0, 1));
        Check.due("rank h", 1, x.rank('h', 1, 1));
        Check.due("rank m", 0, x.rank('m', 1, 0));
        for (int other : new int[] {-1, 3, 9, 10, 12, 100, Integer.MIN_VALUE, Integer.MAX_VALUE}) {
            Check.due("rank of none", -1, x.rank('p', 0, other));
        }
        for (int place : new int[] {-1, 2, 3, 10, Integer.MIN_VALUE, Integer.MAX_VALUE}) {
            Check.thrown("wish at " + place, INDEX, x, () -> x.wish('p', 0, place));
        }
        Check.thrown("wish, empty list", INDEX, x, () -> x.wish('p', 1, 0));
        for (int who : new int[] {-1, 3, 10, Integer.MIN_VALUE, Integer.MAX_VALUE}) {
            for (char side : SIDES) {
                Check.thrown("length " + who, ABSENT, x, () -> x.length(side, who));
                Check.thrown("wish " + who, ABSENT, x, () -> x.wish(side, who, 99));
                Check.thrown("rank " + who, ABSENT, x, () -> x.rank(side, who, 0));
            }
        }
        Check.thrown("length x", ARGUMENT, x, () -> x.length('x', 99));
        Check.thrown("wish x", ARGUMENT, x, () -> x.wish('x', 99, 99));
        Check.thrown("rank x", ARGUMENT, x, () -> x.rank('x', 99, 99));
    }

    private static void cutting() {
        StablepairBureau x = Check.bureau("2>0>1", "0 0 0");
        x.add('m');
        x.add('m');
        Check.read(x, 'm', 0, "1");
        x.run('p');
        for (int length : new int[] {-1, 4, Integer.MIN_VALUE, Integer.MAX_VALUE}) {
            Check.thrown("cut to " + length, INDEX, x, () -> x.cut('p', 0, length));
        }
        for (int who : new int[] {-1, 3, Integer.MIN_VALUE, Integer.MAX_VALUE}) {
            for (char side : SIDES) {
                Check.thrown("cut of " + who, ABSENT, x, () -> x.cut(side, who, 99));
            }
        }
        Check.thrown("cut x", ARGUMENT, x, () -> x.cut('x', 99, 99));
        Check.due("still paired", 2, x.houseOf(0));
        Check.due("cut nothing", 0, x.cut('p', 0, 3));
        Check.due("cut lets go", -1, x.houseOf(0));
        Check.due("cut ends offers", "no offers have begun", Check.canOffer(x));
        Check.due("cut", 2, x.cut('p', 0, 1));
        Check.due("cut list", "2", Check.list(x, 'p', 0));
        Check.due("rank of one cut off", -1, x.rank('p', 0, 0));
        Check.due("rank of the last cut off", -1, x.rank('p', 0, 1));
        Check.due("rank of one who stays", 0, x.rank('p', 0, 2));
        Check.due("cut all", 1, x.cut('p', 0, 0));
        Check.due("cut of the empty", 0, x.cut('p', 0, 0));
        Check.due("cut h", 1, x.cut('h', 1, 0));
        Check.due("cut m", 1, x.cut('m', 0, 0));
        Check.due("list read after a cut", 2, Check.read(x, 'p', 0, "1>0"));
        Check.due("the list", "1>0", Check.list(x, 'p', 0));
    }
}
