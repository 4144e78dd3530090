/** The boundaries of the terms "Mates", "Trade" and "Gifts" and of promises 43 to 49: rooms to helped. */
final class ExchangeBounds extends Bounds {
    private static final String MANY_MATES = "Throws `UnsupportedOperationException` if there are more than 8 mates";
    private static final String UNLIKE = "Throws `UnsupportedOperationException` if there are not as many houses as persons";

    private ExchangeBounds() {
    }

    static void all() {
        mates();
        rooms();
        roomOf();
        trading();
        trade();
        tradeOf();
        tradeRound();
        giving();
        give();
        helped();
    }

    private static String rooms(StablepairBureau x) {
        StringBuilder row = new StringBuilder();
        for (int mate = 0; mate < x.many('m'); mate++) {
            row.append(mate == 0 ? "" : " ").append(x.roomOf(mate));
        }
        return row.toString();
    }

    /** Mates with these lists, and others with empty ones, so that there are so many in all. */
    private static StablepairBureau mates(String lists, int all) {
        StablepairBureau x = Check.mates(lists);
        while (x.many('m') < all) {
            x.add('m');
        }
        return x;
    }

    /** Three of whom each is one's first and another one's last, and a fourth whom all like least. */
    private static StablepairBureau unstable(int all) {
        return mates("1>2>3 2>0>3 0>1>3 0>1>2", all);
    }

    private static void mates() {
        Doc.terms("A pairing of mates pairs each one with another one, or leaves it alone, and those who are paired are on "
                + "each other's list");
        Check.due("on each other's list", "1 0", rooms(Check.mates("1 0")));
        Check.due("on one list alone", "-1 -1", rooms(Check.mates("1 -")));
        Check.due("on the other list alone", "-1 -1", rooms(Check.mates("- 0")));
        Check.due("on one list alone, there is one way", 1, Check.mates("1 -").rooms());
        Check.due("on the other list alone, there is one way", 1, Check.mates("- 0").rooms());
        Check.due("one is left alone", "-1 2 1", rooms(Check.mates("1 2>0 1")));
        Check.due("one alone", "-1", rooms(Check.mates("-")));
        Doc.terms("it is stable if there are no two, not paired, on each other's list, of whom each is alone, or has its mate "
                + "behind the other one on its list");
        Check.due("two who are alone would be paired", 1, Check.mates("1 0").rooms());
        Check.due("both have a mate behind", "2 3 0 1", rooms(Check.mates("2>1 3>0 0>3 1>2")));
        Check.due("one is alone, the other one has its mate behind", "1 0 -1", rooms(Check.mates("1>2 0 0")));
        Check.due("one is alone, the other one has its mate ahead", "2 -1 0", rooms(Check.mates("2>1 0 0")));
        Check.due("not if one alone would", "1 0 3 2", rooms(Check.mates("1>2 0>3 3>0 2>1")));
        Check.due("there is none", 0, unstable(4).rooms());
    }

    private static void rooms() {
        Doc.says(43, "Returns how many stable pairings of mates there are", "Returns how many");
        Check.due("of nobody", 1, new StablepairBureau().rooms());
        for (int many = 1; many <= 8; many++) {
            int count = many;
            Twin.asked("all of " + many + " alone", 1, () -> of(0, 0, count), StablepairBureau::rooms);
        }
        for (int many = 4; many <= 8; many++) {
            int count = many;
            Twin.asked("none of " + many, 0, () -> unstable(count), StablepairBureau::rooms);
            Twin.asked("two of " + many, 2, () -> mates("1>3 2>0 3>1 0>2", count), StablepairBureau::rooms);
        }
        Check.due("four", 4, Check.mates("1>3 2>0 3>1 0>2 5>7 6>4 7>5 4>6").rooms());
        Check.due("the seventh and the eighth count", 1, Check.mates("- - - - - - 7 6").rooms());
        Check.due("the seventh and the eighth are paired", 6, Check.mates("- - - - - - 7 6").roomOf(7));
        Doc.says(43, MANY_MATES);
        for (int many = 9; many <= 10; many++) {
            int count = many;
            Twin.refused("of " + many, CANNOT, () -> of(2, 2, count), StablepairBureau::rooms);
            Twin.refused("none of " + many, CANNOT, () -> unstable(count), StablepairBureau::rooms);
        }
        Check.due("eight, and more persons and houses", 1, of(10, 10, 8).rooms());
    }

    private static void roomOf() {
        Doc.says(44, "Returns the mate of one in the first of these: by the mate of the mate 0, then that of the mate 1, and so "
                + "on, -1, for none, ahead of all", "Returns the mate, or -1", "`mate`: the one");
        Check.due("the first of two", "1 0 3 2", rooms(Check.mates("1>3 2>0 3>1 0>2")));
        Check.due("the first, though it is the worst for the mate 0", "1 0 3 2", rooms(Check.mates("3>1 0>2 1>3 2>0")));
        Check.due("by the mate of a later one", "-1 -1 -1 -1 5 4 7 6", rooms(Check.mates("- - - - 5>7 6>4 7>5 4>6")));
        StablepairBureau x = mates("1 0", 8);
        for (int mate = 0; mate < 8; mate++) {
            int one = mate;
            Check.quiet("mate of " + mate, mate < 2 ? 1 - mate : -1, x, () -> x.roomOf(one));
        }
        Doc.says(44, "Throws `NoSuchElementException` if there is no such mate");
        for (int many : new int[] {0, 1, 4, 8, 9, 10}) {
            for (int mate : absent(many)) {
                int count = many;
                Twin.refused("mate " + mate, ABSENT, () -> of(3, 3, count), y -> y.roomOf(mate));
            }
        }
        for (int mate : absent(9)) {
            Twin.refused("none is stable, nine mates", ABSENT, () -> unstable(9), y -> y.roomOf(mate));
        }
        Doc.says(44, MANY_MATES);
        for (int many = 9; many <= 10; many++) {
            int count = many;
            Twin.refused("the first of " + many, CANNOT, () -> of(0, 0, count), y -> y.roomOf(0));
            Twin.refused("the last of " + many, CANNOT, () -> of(0, 0, count), y -> y.roomOf(count - 1));
            Twin.refused("none is stable", CANNOT, () -> unstable(count), y -> y.roomOf(0));
        }
        Check.due("of eight", -1, of(0, 0, 8).roomOf(7));
        Doc.says(44, "Throws `IllegalStateException` if there is no stable pairing");
        for (int many = 4; many <= 8; many++) {
            int count = many;
            Twin.refused("the first of " + many, STATE, () -> unstable(count), y -> y.roomOf(0));
            Twin.refused("the last of " + many, STATE, () -> unstable(count), y -> y.roomOf(count - 1));
        }
        Twin.refused("three in a ring", STATE, () -> Check.mates("1>2 2>0 0>1"), y -> y.roomOf(2));
    }

    private static String traded(StablepairBureau x) {
        StringBuilder row = new StringBuilder();
        for (int person = 0; person < x.many('p'); person++) {
            row.append(person == 0 ? "" : " ").append(x.tradeOf(person)).append('/').append(x.tradeRound(person));
        }
        return row.toString();
    }

    private static StablepairBureau market(String persons) {
        int many = persons.split(" ").length;
        return Check.bureau(persons, "- ".repeat(many).trim());
    }

    /** So many, each one wishing for the house of the next one. */
    private static String round(int many) {
        StringBuilder lists = new StringBuilder();
        for (int person = 0; person < many; person++) {
            lists.append(person == 0 ? "" : " ").append((person + 1) % many);
        }
        return lists.toString();
    }

    /** So many, each one wishing for the house of the one ahead of it. */
    private static String line(int many) {
        StringBuilder lists = new StringBuilder("0");
        for (int person = 1; person < many; person++) {
            lists.append(' ').append(person - 1);
        }
        return lists.toString();
    }

    private static void trading() {
        Doc.terms("Each person owns the house of its number");
        Check.due("two change", "1/1 0/1", traded(market("1 0")));
        Check.due("pairs are of no meaning", "1/1 0/1", traded(ranOf(Check.bureau("1>0 0>1", "0 1"))));
        Doc.terms("behind its list, if that house is not on it, stands its own one");
        Check.due("an empty list", "0/1", traded(market("-")));
        Check.due("behind the last one", "0/1 1/2", traded(market("0 0")));
        Check.due("on its list, ahead of another one", "0/1 1/1", traded(market("0>1 1>0")));
        Check.due("on its list, in the midst", "0/2 1/1 2/1 3/1", traded(market("1>0>2 1 2 3")));
        Doc.terms("In each round each person who is left points to the one who owns the first house on its list whose owner is "
                + "left");
        Check.due("not to one who has traded", "0/1 2/2 1/2", traded(market("0 0>2 0>1")));
        Check.due("to the first of those who are left", "0/1 1/2 2/3", traded(market("0 0>1 0>1>2")));
        Check.due("the first one at once", "1/1 0/1 2/1", traded(market("1>2 0>2 2>0")));
        Doc.terms("all who are in a ring, one alone, too, trade: each gets the house to whose owner it points, and is not left "
                + "any more");
        Check.due("one alone", "0/1", traded(market("0")));
        Check.due("one alone, others in rings of two and three", "1/1 0/1 3/1 4/1 2/1 5/1", traded(market("1 0 3 4 2 5")));
        Check.due("one who points into a ring waits", "1/1 0/1 2/2", traded(market("1 0 0")));
        for (int many = 1; many <= 10; many++) {
            StablepairBureau x = market(round(many));
            for (int person = 0; person < many; person++) {
                Check.due("in a ring of " + many, (person + 1) % many, x.tradeOf(person));
                Check.due("in the first round", 1, x.tradeRound(person));
            }
        }
        Doc.terms("The places of the houses, and their lists, are of no meaning");
        StablepairBureau y = Check.bureau("1 0 0", "2 2>1>0 -");
        String before = traded(y);
        y.places(0, 4);
        y.places(1, 2);
        Check.due("more places", before, traded(y));
        y.cut('h', 1, 0);
        Check.due("no list", before, traded(y));
        Check.due("as it is", "1/1 0/1 2/2", before);
    }

    private static StablepairBureau ranOf(StablepairBureau x) {
        x.run('p');
        return x;
    }

    /** The calls of trade, of none, one and ten of each side, and of one more or less on one side. */
    private static void unlike(Twin.Use use) {
        for (int[] counts : new int[][] {{1, 0}, {1, 2}, {2, 1}, {9, 10}, {10, 9}, {10, 0}}) {
            Twin.refused(counts[0] + " persons, " + counts[1] + " houses", CANNOT, () -> of(counts[0], counts[1], 2), use);
        }
        Twin.refused("four persons, three houses", CANNOT, Twin::busy, use);
        StablepairBureau x = Twin.busy();
        x.add('h');
        Check.due("four and four", false, Twin.answer(x, use) instanceof Class);
        x.add('h');
        Check.thrown("four and five", CANNOT, x, () -> use.on(x));
    }

    private static void trade() {
        Doc.says(45, "Returns how many rings the trade of houses has", "Returns how many");
        Check.due("of nobody", 0, new StablepairBureau().trade());
        for (int many = 1; many <= 10; many++) {
            int count = many;
            Twin.asked("each one alone", many, () -> of(count, count, 0), StablepairBureau::trade);
            Twin.asked("all in one", 1, () -> market(round(count)), StablepairBureau::trade);
            Twin.asked("one in each round", many, () -> market(line(count)), StablepairBureau::trade);
        }
        Doc.says(45, UNLIKE);
        unlike(StablepairBureau::trade);
        Twin.refused("houses alone", CANNOT, () -> of(0, 1, 0), StablepairBureau::trade);
    }

    private static void tradeOf() {
        Doc.says(46, "Returns which house a person gets by the trade", "Returns the house", PERSON);
        StablepairBureau x = market(line(10));
        for (int person = 0; person < 10; person++) {
            int one = person;
            Check.quiet("its own one", person, x, () -> x.tradeOf(one));
        }
        Check.due("the last house", 9, market(round(10)).tradeOf(8));
        Check.due("the first house", 0, market(round(10)).tradeOf(9));
        Doc.says(46, NO_PERSON);
        noPerson(StablepairBureau::tradeOf);
        Twin.refused("as many of each", ABSENT, () -> of(2, 2, 2), y -> y.tradeOf(2));
        Twin.refused("none of each", ABSENT, StablepairBureau::new, y -> y.tradeOf(0));
        Twin.refused("a house more", ABSENT, () -> of(2, 3, 2), y -> y.tradeOf(2));
        Doc.says(46, UNLIKE);
        unlike(y -> y.tradeOf(0));
    }

    private static void tradeRound() {
        Doc.says(47, "Returns in which round a person trades", "Returns the round, from 1", PERSON);
        StablepairBureau x = market(line(10));
        for (int person = 0; person < 10; person++) {
            int one = person;
            Check.quiet("one after the other", person + 1, x, () -> x.tradeRound(one));
        }
        Check.due("all at once", 1, market(round(10)).tradeRound(9));
        Doc.says(47, NO_PERSON);
        noPerson(StablepairBureau::tradeRound);
        Twin.refused("as many of each", ABSENT, () -> of(2, 2, 2), y -> y.tradeRound(2));
        Twin.refused("none of each", ABSENT, StablepairBureau::new, y -> y.tradeRound(0));
        Twin.refused("a house more", ABSENT, () -> of(2, 3, 2), y -> y.tradeRound(2));
        Doc.says(47, UNLIKE);
        unlike(y -> y.tradeRound(0));
    }

    private static StablepairBureau gifts(String gifts) {
        StablepairBureau x = new StablepairBureau();
        for (String gift : gifts.split(" ")) {
            x.give(gift.charAt(0) - '0', gift.charAt(1) - '0', true);
        }
        return x;
    }

    private static void helps(String what, String gifts, int byTwo, int byThree) {
        Twin.asked(what + ", by two", byTwo, () -> gifts(gifts), x -> x.helped(2));
        Twin.asked(what + ", by three", byThree, () -> gifts(gifts), x -> x.helped(3));
    }

    private static void giving() {
        Doc.terms("There are nine couples of a giver and a taker, 0 to 8");
        for (int couple = 0; couple < 9; couple++) {
            for (int other = 0; other < 9; other++) {
                int one = couple;
                int two = other;
                Object due = couple == other ? ARGUMENT : (Object) false;
                Check.due(couple + " to " + other, due, Twin.answer(new StablepairBureau(), x -> x.give(one, two, true)));
                if (couple < other) {
                    Check.due("both", 2, gifts("" + couple + other + " " + other + couple).helped(2));
                }
            }
        }
        Doc.terms("In a ring of two or three couples each giver can give to the taker of the next one, the last one's to the "
                + "first one's");
        helps("two", "01 10", 2, 2);
        helps("two, the last one cannot", "01", 0, 0);
        helps("three", "01 12 20", 0, 3);
        helps("three, the other way", "02 21 10", 0, 3);
        helps("three, the last one cannot", "01 12 02", 0, 0);
        helps("three, the one in the midst cannot", "01 20 21", 0, 0);
        helps("four are no ring", "01 12 23 30", 0, 0);
        helps("the last three", "67 78 86", 0, 3);
        helps("the first and the last ones", "04 48 80", 0, 3);
        Doc.terms("no couple is in two rings");
        helps("two rings of two have one in common", "01 10 12 21", 2, 2);
        helps("rings of two and three have one in common", "01 12 20 23 32", 2, 3);
        helps("a ring of two is in one of three", "01 12 20 10", 2, 3);
        helps("two rings of three have one in common", "01 12 20 23 34 42", 0, 3);
        helps("two rings of two beat one of three", "01 12 20 03 30 14 41", 4, 4);
        helps("rings of two and three beside each other", "01 12 20 34 43", 2, 5);
    }

    private static void give() {
        Doc.says(48, "Tells whether the giver of a couple can give to the taker of another one", "Returns whether it could "
                + "before", "`couple`: the couple, 0 to 8", "`other`: another one", "`can`: whether it can");
        for (int[] couples : new int[][] {{0, 8}, {8, 0}, {0, 1}, {7, 8}}) {
            StablepairBureau x = new StablepairBureau();
            Check.due("it could not", false, x.give(couples[0], couples[1], true));
            Check.due("it could", true, x.give(couples[0], couples[1], true));
            Check.due("not the other way", false, x.give(couples[1], couples[0], false));
            Check.due("it could still", true, x.give(couples[0], couples[1], false));
            Check.due("it could not any more", false, x.give(couples[0], couples[1], false));
        }
        StablepairBureau y = Twin.busy();
        y.give(3, 4, true);
        Check.due("pairs stay", Check.homes(Twin.busy()), Check.homes(y));
        Check.due("offers go on", Check.canOffer(Twin.busy()), Check.canOffer(y));
        Doc.says(48, "none can at first");
        for (int couple = 0; couple < 9; couple++) {
            for (int other = 0; other < 9; other++) {
                if (couple != other) {
                    Check.due(couple + " to " + other, false, new StablepairBureau().give(couple, other, false));
                }
            }
        }
        Doc.says(48, "Throws `IllegalArgumentException` if there is no such couple, for either, or both are the same");
        for (boolean can : new boolean[] {true, false}) {
            for (int couple : absent(9)) {
                Twin.refused("couple " + couple, ARGUMENT, Twin::busy, x -> x.give(couple, 0, can));
                Twin.refused("to " + couple, ARGUMENT, Twin::busy, x -> x.give(8, couple, can));
                Twin.refused("both " + couple, ARGUMENT, Twin::busy, x -> x.give(couple, couple, can));
            }
            for (int couple = 0; couple < 9; couple++) {
                int same = couple;
                Twin.refused("the same " + couple, ARGUMENT, Twin::busy, x -> x.give(same, same, can));
            }
        }
    }

    private static void helped() {
        Doc.says(49, "Returns to how many couples can be given, most of all, by rings", "Returns how many couples",
                "`most`: how many couples a ring has at most, 2 or 3");
        helps("none", "01", 0, 0);
        helps("one ring of two", "78 87", 2, 2);
        helps("the most by two", "01 10 23 32 45 54 67 76 08", 8, 8);
        helps("the most by three", "01 12 20 34 45 53 67 78 86", 0, 9);
        helps("three by three are more than two by two", "01 10 23 32 45 54 67 76 81 08", 8, 9);
        StablepairBureau all = new StablepairBureau();
        for (int couple = 0; couple < 9; couple++) {
            for (int other = 0; other < 9; other++) {
                if (couple != other) {
                    all.give(couple, other, true);
                }
            }
        }
        Check.quiet("all can: one is left by two", 8, all, () -> all.helped(2));
        Check.quiet("all can: none is left by three", 9, all, () -> all.helped(3));
        Doc.says(49, "Throws `IllegalArgumentException` if that is out of range");
        for (int most : new int[] {1, 4, 0, -1, -2, 5, 9, 258, 259, Integer.MIN_VALUE + 2, Integer.MIN_VALUE,
            Integer.MAX_VALUE}) {
            Twin.refused("most " + most, ARGUMENT, Twin::busy, x -> x.helped(most));
            Check.thrown("most " + most, ARGUMENT, all, () -> all.helped(most));
        }
    }
}
