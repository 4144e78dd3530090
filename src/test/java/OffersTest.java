/** Promises 14 to 20: offers. */
final class OffersTest {
    private static final Class<IllegalArgumentException> ARGUMENT = IllegalArgumentException.class;
    private static final Class<IllegalStateException> STATE = IllegalStateException.class;
    private static final Class<IndexOutOfBoundsException> INDEX = IndexOutOfBoundsException.class;
    private static final Class<UnsupportedOperationException> CANNOT = UnsupportedOperationException.class;
    private static final Class<java.util.NoSuchElementException> ABSENT = java.util.NoSuchElementException.class;

    private OffersTest() {
    }

    public static void main(String[] args) {
        beginning();
        personsOffer();
        housesOffer();
        refusals();
        running();
        log();
        endings();
        Check.end();
    }

    private static void beginning() {
        StablepairBureau x = Check.bureau("0 - 0>1", "0>2 2 -");
        x.add('m');
        x.add('m');
        Check.read(x, 'm', 0, "1");
        Check.thrown("offer ahead of begin", STATE, x, () -> x.offer(0));
        Check.thrown("offer of none ahead of begin", STATE, x, () -> x.offer(99));
        Check.thrown("open ahead of begin", STATE, x, x::open);
        Check.due("begin p", 2, x.begin('p'));
        Check.due("open p", 2, x.open());
        Check.due("begin h", 2, x.begin('h'));
        Check.due("open h", 2, x.open());
        Check.due("offer h", 'h', x.offer(1));
        Check.due("open h, one less", 1, x.open());
        for (char wrong : new char[] {'m', 'x', 'P', 0, 65535}) {
            Check.thrown("begin " + wrong, ARGUMENT, x, () -> x.begin(wrong));
            Check.thrown("run " + wrong, ARGUMENT, x, () -> x.run(wrong));
        }
        Check.due("begin anew", 2, x.begin('p'));
        Check.due("begin lets go", "-1 -1 -1", Check.homes(x));
        Check.due("begin forgets offers", 0, x.offers());
        Check.thrown("no offerAt", INDEX, x, () -> x.offerAt(0));
        StablepairBureau y = new StablepairBureau();
        Check.due("begin of none", 0, y.begin('p'));
        Check.due("open of none", 0, y.open());
        Check.thrown("offer of none", ABSENT, y, () -> y.offer(0));
        Check.due("run of none", 0, y.run('h'));
    }

    private static void personsOffer() {
        StablepairBureau x = Check.bureau("0>1 0 0>1 0", "3>2>0>1 2");
        x.places(0, 2);
        x.begin('p');
        Check.due("first held", 'h', x.offer(1));
        Check.due("second held", 'h', x.offer(0));
        Check.thrown("one who is paired", CANNOT, x, () -> x.offer(0));
        Check.due("the last one goes", 'x', x.offer(2));
        Check.due("who went", "0 -1 0 -1", Check.homes(x));
        Check.thrown("one whose list is at its end", CANNOT, x, () -> x.offer(1));
        Check.due("the last one goes again", 'x', x.offer(3));
        Check.due("who went then", "-1 -1 0 0", Check.homes(x));
        Check.due("open", 1, x.open());
        Check.due("not on the list", 'r', x.offer(0));
        Check.due("open at the end", 0, x.open());
        Check.thrown("nobody offers any more", CANNOT, x, () -> x.offer(0));
        for (int who : new int[] {-1, 4, 10, Integer.MIN_VALUE, Integer.MAX_VALUE}) {
            Check.thrown("offer of " + who, ABSENT, x, () -> x.offer(who));
        }
        Check.due("offers", "10h 0h 20x 30x 1r", Check.offersMade(x));
        Check.due("held in order", "3 2", Check.heldBy(x, 0));
    }

    private static void housesOffer() {
        StablepairBureau x = Check.bureau("1>0 0>1 1", "0>1>2 1>0>2 -");
        x.places(0, 2);
        x.begin('h');
        Check.due("open", 2, x.open());
        Check.due("held", 'h', x.offer(0));
        Check.due("a house that is not full goes on", 2, x.open());
        Check.due("held too", 'h', x.offer(0));
        Check.due("a full house stops", 1, x.open());
        Check.thrown("a full house", CANNOT, x, () -> x.offer(0));
        Check.thrown("a house without a list", CANNOT, x, () -> x.offer(2));
        Check.thrown("no such house", ABSENT, x, () -> x.offer(3));
        Check.due("the own one is ahead", 'r', x.offer(1));
        Check.due("the own one is behind", 'x', x.offer(1));
        Check.due("pairs", "1 0 -1", Check.homes(x));
        Check.due("the one let go can offer", 1, x.open());
        Check.due("not on the person's list", 'r', x.offer(0));
        Check.due("open at the end", 0, x.open());
        Check.due("offers", "0h 1h 11r 10x 2r", Check.offersMade(x));
    }

    private static void refusals() {
        StablepairBureau x = Check.bureau("0 0 0", "1>0");
        x.begin('p');
        Check.due("held", 'h', x.offer(1));
        Check.due("refused behind those held", 'r', x.offer(0));
        Check.due("refused, not on the list", 'r', x.offer(2));
        StablepairBureau y = Check.bureau("0 0 0", "1>0");
        y.places(0, 3);
        y.begin('p');
        Check.due("room, but not on the list", 'r', y.offer(2));
        Check.due("room", 'h', y.offer(0));
        Check.due("room for two", 'h', y.offer(1));
        Check.due("both held", "1 0", Check.heldBy(y, 0));
    }

    private static void running() {
        StablepairBureau x = Check.bureau("1>0>2 0>1>2 0>1>2", "0>2>1 1>0>2 0>1>2");
        Check.due("run p", 7, x.run('p'));
        Check.due("log of run p", "1h 10h 20x 11x 0x 21r 22h", Check.offersMade(x));
        Check.due("pairs of run p", "0 1 2", Check.homes(x));
        Check.due("offers have begun by run", "open 0", Check.canOffer(x));
        Check.thrown("nobody can make one", CANNOT, x, () -> x.offer(0));
        Check.due("run h", 5, x.run('h'));
        Check.due("log of run h", "0h 11h 20r 21r 22h", Check.offersMade(x));
        Check.due("the lowest one who can goes first", 4, run("0>1 0 1", "1>0 2>0", "0h 10x 1h 21x", 'p'));
        Check.due("houses, too", 5, run("1>0 0>1>2 2", "0>1 0>1 1>2", "0h 10x 1h 21r 22h", 'h'));
        StablepairBureau y = Check.bureau("0 0", "0>1");
        y.places(0, 2);
        Check.due("a house that is not full goes on", 2, y.run('h'));
        Check.due("its pairs", "0 0", Check.homes(y));
        Check.due("run anew lets go", 2, y.run('p'));
        y.cut('h', 0, 0);
        Check.due("all are refused", 2, y.run('p'));
        Check.due("refusals", "0r 10r", Check.offersMade(y));
    }

    private static int run(String persons, String houses, String log, char side) {
        StablepairBureau x = Check.bureau(persons, houses);
        int offers = x.run(side);
        Check.due("log of " + persons + ", " + houses, log, Check.offersMade(x));
        return offers;
    }

    private static void log() {
        StablepairBureau x = Check.bureau("0>1 0", "1>0 0");
        Check.due("no offers ever", 0, x.offers());
        for (int offers = 0; offers <= 3; offers++) {
            if (offers == 0) {
                x.begin('p');
            } else {
                x.offer(offers == 2 ? 1 : 0);
            }
            Check.due("offers", offers, x.offers());
            for (int index : new int[] {-1, offers, offers + 1, 100, Integer.MIN_VALUE, Integer.MAX_VALUE}) {
                Check.thrown("offerAt " + index, INDEX, x, () -> x.offerAt(index));
                Check.thrown("resultAt " + index, INDEX, x, () -> x.resultAt(index));
            }
        }
        Check.due("offerAt 0", 0, x.offerAt(0));
        Check.due("offerAt 1", 10, x.offerAt(1));
        Check.due("offerAt 2", 1, x.offerAt(2));
        Check.due("resultAt 0", 'h', x.resultAt(0));
        Check.due("resultAt 1", 'x', x.resultAt(1));
        Check.due("resultAt 2", 'h', x.resultAt(2));
        hundredOffers();
    }

    /** All ten list all, and each list is gone through to its end: no more offers can there be. */
    private static void hundredOffers() {
        String all = "0>1>2>3>4>5>6>7>8>9";
        String ten = all + " " + all + " " + all + " " + all + " " + all + " " + all + " " + all + " " + all + " " + all
                + " " + all;
        StablepairBureau x = Check.bureau(ten, "- - - - - - - - - -");
        Check.due("a hundred offers", 100, x.run('p'));
        Check.due("the last one", 99, x.offerAt(99));
        Check.due("and its result", 'r', x.resultAt(99));
        Check.thrown("none behind it", INDEX, x, () -> x.offerAt(100));
        StablepairBureau y = Check.bureau("- - - - - - - - - -", ten);
        Check.due("a hundred offers of houses", 100, y.run('h'));
        Check.due("one in between", 47, y.offerAt(47));
    }

    private static void endings() {
        String[] kinds = {"pair", "part", "add p", "add m", "places", "read", "cut", "turn", "stableAt", "fairest"};
        for (String kind : kinds) {
            StablepairBureau x = Check.bureau("0>1 1>0 -", "1>0 0>1");
            x.run('p');
            Check.due("offers had begun", "open 0", Check.canOffer(x));
            end(x, kind);
            Check.due("ended by " + kind, "no offers have begun", Check.canOffer(x));
            Check.thrown("offer after " + kind, STATE, x, () -> x.offer(0));
            Check.due("told after " + kind, "0h 11h", Check.offersMade(x));
            x.begin('h');
            Check.due("forgotten by begin", "", Check.offersMade(x));
        }
        StablepairBureau x = Check.bureau("0>1 1>0", "1>0 0>1");
        x.begin('p');
        x.offer(0);
        x.least(0, 1);
        x.give(0, 1, true);
        Check.type(x, "0>");
        x.read('p', 0);
        Check.due("not ended by these", "open 1", Check.canOffer(x));
        Check.due("nor are the pairs", "0 -1", Check.homes(x));
    }

    private static void end(StablepairBureau x, String kind) {
        switch (kind) {
            case "pair" -> {
                x.begin('p');
                x.offer(0);
                x.offer(1);
                x.places(0, 2);
                x.begin('p');
                x.offer(0);
                x.offer(1);
                Check.due("pair", 2, x.pair(1, 0));
            }
            case "part" -> Check.due("part of one who is alone", -1, x.part(2));
            case "add p" -> x.add('p');
            case "add m" -> x.add('m');
            case "places" -> x.places(1, 1);
            case "read" -> Check.read(x, 'h', 0, "1>0");
            case "cut" -> x.cut('h', 0, 2);
            case "turn" -> x.turn(0);
            case "stableAt" -> x.stableAt(0);
            default -> x.fairest('s');
        }
    }
}
