/** Promises 43 to 49: mates, trade, gifts. */
final class ExchangeTest {
    private static final Class<IllegalArgumentException> ARGUMENT = IllegalArgumentException.class;
    private static final Class<IllegalStateException> STATE = IllegalStateException.class;
    private static final Class<UnsupportedOperationException> CANNOT = UnsupportedOperationException.class;
    private static final Class<java.util.NoSuchElementException> ABSENT = java.util.NoSuchElementException.class;

    private ExchangeTest() {
    }

    public static void main(String[] args) {
        mates();
        manyMates();
        trade();
        tradeLimits();
        gifts();
        giftLimits();
        Check.end();
    }

    private static String rooms(StablepairBureau x) {
        StringBuilder row = new StringBuilder();
        for (int mate = 0; mate < x.many('m'); mate++) {
            row.append(mate == 0 ? "" : " ").append(x.roomOf(mate));
        }
        return row.toString();
    }

    private static void mates() {
        StablepairBureau x = new StablepairBureau();
        Check.due("the pairing of none", 1, x.rooms());
        Check.thrown("no mate", ABSENT, x, () -> x.roomOf(0));
        StablepairBureau none = Check.mates("1>2>3 2>0>3 0>1>3 0>1>2");
        Check.quiet("no stable pairing", 0, none, none::rooms);
        Check.thrown("no stable pairing", STATE, none, () -> none.roomOf(0));
        for (int wrong : new int[] {-1, 4, 8, 10, Integer.MIN_VALUE, Integer.MAX_VALUE}) {
            Check.thrown("roomOf " + wrong, ABSENT, none, () -> none.roomOf(wrong));
        }
        StablepairBureau one = Check.mates("1 0 - 2");
        Check.quiet("one", 1, one, one::rooms);
        Check.due("two of them alone", "1 0 -1 -1", rooms(one));
        StablepairBureau two = Check.mates("1>3 2>0 3>1 0>2");
        Check.due("two", 2, two.rooms());
        Check.due("the first one", "1 0 3 2", rooms(two));
        StablepairBureau more = Check.mates("3>1 0>2 1>3 2>0");
        Check.due("two", 2, more.rooms());
        Check.due("the first one, the best for others", "1 0 3 2", rooms(more));
        StablepairBureau odd = Check.mates("1>2 2>0 0>1");
        Check.due("a ring of three", 0, odd.rooms());
        StablepairBureau loose = Check.mates("1 2 0");
        Check.due("nobody is on each other's list", 1, loose.rooms());
        Check.due("all alone", "-1 -1 -1", rooms(loose));
        StablepairBureau left = Check.mates("1>2>3 0>2>3 0>1>3 0>1>2");
        Check.due("two and two", "1 0 3 2", rooms(left));
    }

    private static void manyMates() {
        // Four rings of two pairings each cannot be, but two rings of four can: two times two.
        StablepairBureau x = Check.mates("1>3 2>0 3>1 0>2 5>7 6>4 7>5 4>6");
        Check.due("eight mates", 4, x.rooms());
        Check.due("the first one", "1 0 3 2 5 4 7 6", rooms(x));
        Check.due("the seventh", 7, x.roomOf(6));
        x.add('m');
        Check.thrown("nine mates", CANNOT, x, x::rooms);
        Check.thrown("nine mates", CANNOT, x, () -> x.roomOf(8));
        Check.thrown("nine mates, and no such one", ABSENT, x, () -> x.roomOf(9));
    }

    private static String traded(StablepairBureau x) {
        StringBuilder row = new StringBuilder();
        for (int person = 0; person < x.many('p'); person++) {
            row.append(person == 0 ? "" : " ").append(x.tradeOf(person)).append('/').append(x.tradeRound(person));
        }
        return row.toString();
    }

    private static void trade() {
        StablepairBureau x = Check.bureau("1>0 0 0>1", "- - -");
        Check.quiet("two rings", 2, x, x::trade);
        Check.due("who gets what", "1/1 0/1 2/2", traded(x));
        StablepairBureau y = Check.bureau("- - -", "0 0 0");
        Check.due("all keep their own ones", 3, y.trade());
        Check.due("in one round", "0/1 1/1 2/1", traded(y));
        StablepairBureau z = Check.bureau("1 2 0", "- - -");
        z.places(0, 4);
        Check.due("one ring of all", 1, z.trade());
        Check.due("round it goes", "1/1 2/1 0/1", traded(z));
        StablepairBureau w = Check.bureau("1>2>3 1 1>0>3 1>2>0", "- - - -");
        Check.due("one after the other", 3, w.trade());
        Check.due("who gets what", "2/2 1/1 0/2 3/3", traded(w));
        StablepairBureau ten = Check.bureau("1 2 3 4 5 6 7 8 9 0", "- - - - - - - - - -");
        Check.due("one ring of ten", 1, ten.trade());
        Check.due("round it goes", "1/1 2/1 3/1 4/1 5/1 6/1 7/1 8/1 9/1 0/1", traded(ten));
        StablepairBureau line = Check.bureau("0 0>1 1>2 2>3 3>4 4>5 5>6 6>7 7>8 8>9", "- - - - - - - - - -");
        Check.due("one after the other", 10, line.trade());
        Check.due("in ten rounds", "0/1 1/2 2/3 3/4 4/5 5/6 6/7 7/8 8/9 9/10", traded(line));
        // The own house is ahead of the second one on the list.
        StablepairBureau v = Check.bureau("1>0>2 1 0", "- - -");
        Check.due("each one its own", 3, v.trade());
        Check.due("in their rounds", "0/2 1/1 2/3", traded(v));
    }

    private static void tradeLimits() {
        StablepairBureau x = Check.bureau("0 0", "-");
        Check.thrown("a house too few", CANNOT, x, x::trade);
        Check.thrown("tradeOf", CANNOT, x, () -> x.tradeOf(1));
        Check.thrown("tradeRound", CANNOT, x, () -> x.tradeRound(1));
        x.add('h');
        Check.due("as many", 2, x.trade());
        Check.due("its own one", 1, x.tradeOf(1));
        for (int wrong : new int[] {-1, 2, 10, Integer.MIN_VALUE, Integer.MAX_VALUE}) {
            Check.thrown("tradeOf " + wrong, ABSENT, x, () -> x.tradeOf(wrong));
            Check.thrown("tradeRound " + wrong, ABSENT, x, () -> x.tradeRound(wrong));
        }
        x.add('h');
        Check.thrown("a house too many", CANNOT, x, x::trade);
        Check.thrown("and no such person", ABSENT, x, () -> x.tradeOf(2));
        Check.thrown("and no such person", ABSENT, x, () -> x.tradeRound(2));
        Check.due("trade of none", 0, new StablepairBureau().trade());
    }

    private static StablepairBureau given(String gifts) {
        StablepairBureau x = new StablepairBureau();
        for (String gift : gifts.split(" ")) {
            Check.due("could not before", false, x.give(gift.charAt(0) - '0', gift.charAt(1) - '0', true));
        }
        return x;
    }

    private static void helps(String gifts, int byTwo, int byThree) {
        StablepairBureau x = given(gifts);
        Check.quiet(gifts + " by two", byTwo, x, () -> x.helped(2));
        Check.quiet(gifts + " by three", byThree, x, () -> x.helped(3));
    }

    private static void gifts() {
        StablepairBureau x = new StablepairBureau();
        Check.due("none can at first", 0, x.helped(2));
        Check.due("none can at first", 0, x.helped(3));
        Check.due("give", false, x.give(8, 0, true));
        Check.due("give again", true, x.give(8, 0, true));
        Check.due("the other way", false, x.give(0, 8, false));
        Check.due("one way helps none", 0, x.helped(3));
        Check.due("the other way, too", false, x.give(0, 8, true));
        Check.due("helps two", 2, x.helped(2));
        Check.due("no more", true, x.give(8, 0, false));
        Check.due("helps none again", 0, x.helped(2));
        Check.due("could not any more", false, x.give(8, 0, false));
        helps("01 12 20", 0, 3);
        helps("02 21 10", 0, 3);
        helps("01 12 23 30", 0, 0);
        helps("01 10 12 21", 2, 2);
        helps("01 10 12 21 23 32", 4, 4);
        helps("01 12 20 23 32", 2, 3);
        helps("01 12 20 03 30 14 41", 4, 4);
        helps("01 12 20 03 30 14 41 25 52", 6, 6);
        helps("01 12 20 34 45 53 67 78 86", 0, 9);
        helps("01 12 20 34 45 53 67 76", 2, 8);
        helps("01 10 23 32 45 54 67 76 08", 8, 8);
        helps("01 10 12 21 20 02", 2, 3);
        helps("07 70 78 87 80", 2, 3);
    }

    private static void giftLimits() {
        StablepairBureau x = new StablepairBureau();
        for (int wrong : new int[] {-1, 9, 10, Integer.MIN_VALUE, Integer.MAX_VALUE}) {
            Check.thrown("give " + wrong, ARGUMENT, x, () -> x.give(wrong, 0, true));
            Check.thrown("give to " + wrong, ARGUMENT, x, () -> x.give(0, wrong, true));
            Check.thrown("helped " + wrong, ARGUMENT, x, () -> x.helped(wrong));
        }
        for (int wrong : new int[] {0, 1, 4}) {
            Check.thrown("helped " + wrong, ARGUMENT, x, () -> x.helped(wrong));
        }
        for (int couple = 0; couple < 9; couple++) {
            int same = couple;
            Check.thrown("give to oneself", ARGUMENT, x, () -> x.give(same, same, true));
        }
    }
}
