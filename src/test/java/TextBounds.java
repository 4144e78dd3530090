/** The boundaries of the term "The text" and of promises 6 to 9: type, erase, signAt, read. */
final class TextBounds extends Bounds {
    private static final String NO_PLACE = "Throws `IndexOutOfBoundsException` if there is no such place";

    private TextBounds() {
    }

    static void all() {
        sixtySigns();
        shapes();
        alike();
        digits();
        faults();
        openEnds();
        typing();
        erasing();
        signs();
        reading();
    }

    private static StablepairBureau ten() {
        return of(10, 10, 10);
    }

    /** So many signs, the last ones being these. */
    private static String zeros(int size, String end) {
        return "0".repeat(size - end.length()) + end;
    }

    private static StablepairBureau typed(String text) {
        StablepairBureau x = Twin.busy();
        x.erase();
        Check.type(x, text);
        return x;
    }

    private static void list(String typed, String list) {
        int size = list.isEmpty() ? 0 : list.split(">").length;
        for (char side : new char[] {'p', 'h', 'm'}) {
            if (side == 'm' && list.contains("9")) {
                continue;
            }
            StablepairBureau x = ten();
            Check.due("read " + side + " " + typed, size, Check.read(x, side, 9, typed));
            Check.due("list " + side + " " + typed, list, Check.list(x, side, 9));
        }
    }

    /** A fault of the text as a list of the person 3, of the house 3 and of the mate 3: there are three to list. */
    private static void fault(String typed, int fault) {
        for (char side : SIDES) {
            StablepairBureau x = of(side == 'h' ? 3 : 4, side == 'p' ? 3 : 4, 4);
            Check.due("fault " + side + " " + typed, -1 - fault, Check.read(x, side, 3, typed));
            Check.due("no list " + side, 0, x.length(side, 3));
        }
        StablepairBureau y = of(4, 3, 0);
        Check.type(y, typed);
        Check.due("fault of a false list " + typed, -2 - fault, y.lie(3));
    }

    private static void sixtySigns() {
        Doc.terms("There is one text, empty at first, of at most 60 signs, of the codes 32 to 126");
        Check.due("empty at first", 0, new StablepairBureau().erase());
        StablepairBureau x = ten();
        Check.type(x, "1");
        Check.due("one text for all", 1, x.read('p', 0));
        Check.due("it is away for another side", 0, x.read('h', 0));
        Check.due("and another one", 0, x.read('p', 1));
        for (int size = 1; size <= 60; size++) {
            Check.due("sign", size, x.type((char) (32 + size)));
        }
        Check.thrown("a sign behind the 60th", STATE, x, () -> x.type('0'));
        for (int code = 0; code < 300; code++) {
            char sign = (char) code;
            Object want = code >= 32 && code <= 126 ? (Object) 1 : ARGUMENT;
            Check.due("code " + code, want, Twin.answer(new StablepairBureau(), y -> y.type(sign)));
        }
    }

    private static void shapes() {
        Doc.terms("To be read as a list it is empty, or numbers, with '>' or '=' between two of them");
        list("", "");
        list("0", "0");
        list("8", "8");
        list("0>1", "0>1");
        list("0=1", "0>1");
        list("0>1=2>3", "0>1>2>3");
        fault(">", 0);
        fault("=", 0);
        fault(" ", 0);
        fault("0 ", 1);
        fault(" 0", 0);
        fault("0>>1", 2);
        fault("0==1", 2);
        fault("0=>1", 2);
        fault("0>=1", 2);
        fault(">0", 0);
        fault("=0", 0);
        fault("0<1", 1);
        fault("0?1", 1);
        fault("0;1", 1);
    }

    private static void alike() {
        Doc.terms("those between which there are signs '=' alone are like wishes, and come in the order of their numbers, "
                + "and all others as they stand");
        list("8=0", "0>8");
        list("0=8", "0>8");
        list("8>0", "8>0");
        list("8=0>7", "0>8>7");
        list("7>8=0", "7>0>8");
        list("8=7>6=5", "7>8>5>6");
        list("1=0>3=2>5=4", "0>1>2>3>4>5");
        list("5=4>3=2>1=0", "4>5>2>3>0>1");
        list("5=3=4>2>1=0", "3>4>5>2>0>1");
        list("2>8=1=5>0", "2>1>5>8>0");
        list("9=8=7=6=5=4=3=2=1=0", "0>1>2>3>4>5>6>7>8>9");
        list("9>8>7>6>5>4>3>2>1>0", "9>8>7>6>5>4>3>2>1>0");
        list("0>9=8=7=6=5=4=3=2=1", "0>1>2>3>4>5>6>7>8>9");
        list("9=8=7=6=5=4=3=2=1>0", "1>2>3>4>5>6>7>8>9>0");
    }

    private static void digits() {
        Doc.terms("A number is as many digits, '0' to '9', as stand there");
        list("00", "0");
        list("01>002", "1>2");
        list("9", "9");
        list("000000000000000000009=08", "8>9");
        list(zeros(60, ""), "0");
        list(zeros(60, "9"), "9");
        fault("/", 0);
        fault(":", 0);
        fault("0/", 1);
        fault("0:", 1);
        fault("10", 0);
        fault("12", 0);
        fault("1>02>003", 5);
        fault("9".repeat(60), 0);
        fault("1" + zeros(59, ""), 0);
        fault("256", 0);
        fault("65536", 0);
        fault("4294967296", 0);
        fault("4294967297", 0);
        fault("2147483648", 0);
        fault("18446744073709551616", 0);
        fault("1>18446744073709551616", 2);
        fault("340282366920938463463374607431768211456", 0);
        Check.due("ten is none of ten", -1, Check.read(ten(), 'p', 0, "10"));
        Check.due("ninety-nine", -1, Check.read(ten(), 'p', 0, "99"));
        Check.due("a hundred", -1, Check.read(ten(), 'p', 0, "100"));
    }

    private static void faults() {
        Doc.terms("The fault is the place, from 0, of the first sign that cannot stand there, or of the first digit of the "
                + "first number that is none of the other side, or, for a mate, its own or that of no mate, or was there "
                + "already, whichever is ahead");
        fault("x", 0);
        fault("0x", 1);
        fault("0>x", 2);
        fault("0>1>2x", 5);
        fault("3", 0);
        fault("2>3", 2);
        fault("3x", 0);
        fault("33x", 0);
        fault("0x3", 1);
        fault("0>>3", 2);
        fault("0>3>>", 2);
        fault("0>003", 2);
        fault("0>0", 2);
        fault("0>00", 2);
        fault("0=0", 2);
        fault("2=0=2", 4);
        fault("0>1=0", 4);
        fault("0>1>1>x", 4);
        fault("0>1>x>1", 4);
        fault("0>1>2>0", 6);
        fault("0>0>3", 2);
        fault("0>3>0", 2);
        for (int count = 0; count <= 10; count++) {
            Check.due("none of the houses", -1, Check.read(of(1, count, 0), 'p', 0, "" + count));
            Check.due("none of the persons", -1, Check.read(of(count, 1, 0), 'h', 0, "" + count));
            if (count > 0) {
                Check.due("the last house", 1, Check.read(of(1, count, 0), 'p', 0, "" + (count - 1)));
                Check.due("the last person", 1, Check.read(of(count, 1, 0), 'h', 0, "" + (count - 1)));
                Check.due("no mate", -1, Check.read(of(0, 0, count), 'm', 0, "" + count));
            }
        }
        for (int mate = 0; mate < 10; mate++) {
            Check.due("its own", -1, Check.read(ten(), 'm', mate, "" + mate));
            Check.due("its own behind another one", -3, Check.read(ten(), 'm', mate, (mate + 1) % 10 + ">" + mate));
            Check.due("that of another one", 1, Check.read(ten(), 'm', mate, "" + (mate + 1) % 10));
            Check.due("a person's own is a house", 1, Check.read(ten(), 'p', mate, "" + mate));
            Check.due("a house's own is a person", 1, Check.read(ten(), 'h', mate, "" + mate));
        }
        Check.due("its own ahead of a wrong sign", -1, Check.read(ten(), 'm', 3, "3x"));
        Check.due("a wrong sign ahead of its own", -2, Check.read(ten(), 'm', 3, "0x3"));
        Check.due("its own ahead of one that was there", -3, Check.read(ten(), 'm', 3, "0>3>0"));
        Check.due("one that was there ahead of its own", -3, Check.read(ten(), 'm', 3, "0>0>3"));
    }

    private static void openEnds() {
        Doc.terms("the length of the text, if it ends behind a '>' or '=' and nothing of these is ahead");
        fault("0>", 2);
        fault("0=", 2);
        fault("0>1=", 4);
        fault("2=0>", 4);
        fault("00>", 3);
        fault("0>1>2>", 6);
        fault("0>1>2>0>", 6);
        fault("0>3>", 2);
        fault("3=", 0);
        fault("0x>", 1);
        fault(zeros(59, ">"), 59);
        fault(zeros(60, ">"), 60);
        fault(zeros(60, "="), 60);
        fault(zeros(60, ">2="), 60);
        fault(zeros(60, ">0="), 58);
        fault(zeros(60, ">>"), 59);
        fault(zeros(60, "3="), 0);
        list(zeros(60, ">2"), "0>2");
    }

    private static void typing() {
        Doc.says(6, "Puts a sign behind the text", "`sign`: the sign", "Returns how many signs it has then");
        StablepairBureau x = new StablepairBureau();
        StringBuilder all = new StringBuilder();
        for (int size = 1; size <= 60; size++) {
            char sign = (char) (size % 2 == 0 ? 31 + size : 127 - size);
            all.append(sign);
            Check.due("type", size, x.type(sign));
            Check.due("behind the text", sign, x.signAt(size - 1));
        }
        for (int place = 0; place < 60; place++) {
            Check.due("in the end", all.charAt(place), x.signAt(place));
        }
        Doc.says(6, "Throws `IllegalArgumentException` if its code is not 32 to 126");
        Check.due("code 32", 4, Twin.busy().type((char) 32));
        Check.due("code 126", 4, Twin.busy().type((char) 126));
        for (int code : new int[] {0, 1, 31, 127, 128, 255, 256 + 32, 256 + 126, 65535}) {
            Twin.refused("code " + code, ARGUMENT, Twin::busy, y -> y.type((char) code));
            Twin.refused("code " + code + " behind sixty", ARGUMENT, () -> typed(zeros(60, "")), y -> y.type((char) code));
        }
        Doc.says(6, "Throws `IllegalStateException` if it has 60 signs");
        Check.due("a 60th", 60, typed(zeros(59, "")).type('0'));
        Twin.refused("a 61st", STATE, () -> typed(zeros(60, "")), y -> y.type('0'));
        StablepairBureau full = typed(zeros(60, "9"));
        full.erase();
        Check.due("room again", 1, full.type('5'));
        Check.due("the new sign", '5', full.signAt(0));
        Check.thrown("not those of before", INDEX, full, () -> full.signAt(1));
    }

    private static void erasing() {
        Doc.says(7, "Takes the text away", "Returns how many signs it had");
        for (int size : new int[] {0, 1, 2, 59, 60}) {
            StablepairBureau x = typed("0".repeat(size));
            String homes = Check.homes(x);
            Check.due("erase", size, x.erase());
            Check.due("erase again", 0, x.erase());
            Check.thrown("no sign", INDEX, x, () -> x.signAt(0));
            Check.due("pairs stay", homes, Check.homes(x));
            Check.due("offers go on", Check.canOffer(Twin.busy()), Check.canOffer(x));
            Check.due("room for one", 1, x.type('1'));
        }
    }

    private static void signs() {
        Doc.says(8, "Returns a sign of the text", "Returns the sign", "`place`: its place, from 0");
        StablepairBureau x = typed(" ~0");
        Check.quiet("the first", ' ', x, () -> x.signAt(0));
        Check.quiet("the second", '~', x, () -> x.signAt(1));
        Check.quiet("the last", '0', x, () -> x.signAt(2));
        Doc.says(8, NO_PLACE);
        for (int size : new int[] {0, 1, 3, 59, 60}) {
            indices("sign of " + size, INDEX, () -> typed("0".repeat(size)), size, StablepairBureau::signAt);
        }
    }

    private static void reading() {
        Doc.says(9, "Reads the text as the list of one", SIDE, "`who`: the one",
                "Returns how many are on the list, or -1 less the fault");
        for (char side : SIDES) {
            StablepairBureau x = ten();
            Check.due("the most", side == 'm' ? 9 : 10, Check.read(x, side, 9, side == 'm' ? "0=1=2=3=4=5=6=7=8"
                    : "0=1=2=3=4=5=6=7=8=9"));
            Check.due("another one", 0, x.length(side, 8));
            Check.due("one, in the place of all", 1, Check.read(x, side, 9, "5"));
            Check.due("who went", -1, x.rank(side, 9, 0));
            Check.due("none, in the place of one", 0, Check.read(x, side, 9, ""));
            Check.due("who went", -1, x.rank(side, 9, 5));
            Check.due("the least fault", -1, Check.read(x, side, 9, ">"));
            Check.due("the greatest fault", -61, Check.read(x, side, 9, zeros(60, ">")));
        }
        Doc.says(9, "the text is taken away");
        for (String text : new String[] {"", "1", "1>", "x", zeros(60, ">"), zeros(60, "")}) {
            StablepairBureau x = typed(text);
            x.read('m', 3);
            Check.due("after " + text, 0, x.erase());
        }
        Doc.says(9, "Without a fault all pairs are let go");
        for (char side : SIDES) {
            letsGo("the empty text " + side, x -> x.read(side, 1));
            letsGo("the same list " + side, x -> Check.read(x, side, 1, side == 'm' ? "" : "1>0"));
            letsGo("another list " + side, x -> Check.read(x, side, 1, "0"));
        }
        Doc.says(9, "at a fault nothing else changes");
        for (char side : SIDES) {
            for (String text : new String[] {"x", "0>", "9", "0>0", "0>1>2>3>4"}) {
                keptAtFault(side, text);
            }
        }
        Doc.says(9, NO_SIDE);
        noSide(Twin::busy, (x, side) -> x.read(side, 0));
        noSide(Twin::busy, (x, side) -> x.read(side, 99));
        Doc.says(9, NO_ONE);
        noOne(StablepairBureau::read);
    }

    private static void keptAtFault(char side, String text) {
        int fault = Check.read(typed(""), side, 3 - (side == 'h' ? 1 : 0), text);
        Check.due("is a fault: " + side + text, true, fault < 0);
        // After the fault the bureau must be as one whose text was erased.
        Twin.Maker faulty = () -> {
            StablepairBureau x = typed(text);
            x.read(side, 3 - (side == 'h' ? 1 : 0));
            return x;
        };
        Check.due("as if erased: " + side + text, Twin.future(typed("")), Twin.future(faulty.make()));
    }
}
