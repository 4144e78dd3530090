import java.util.Objects;

/** What the tests share: comparing answers, and looking at all that a bureau shows. */
final class Check {
    interface Call {
        Object answer();
    }

    private static int done = 0;
    private static int wrong = 0;
    private static String about = "";

    private Check() {
    }

    /** What the checks are about from now on. */
    static void about(String sentence) {
        about = sentence.isEmpty() ? "" : sentence + ": ";
    }

    static int done() {
        return done;
    }

    static void due(String what, Object want, Object got) {
        done++;
        if (!Objects.equals(want, got)) {
            wrong++;
            System.out.println(about + what + ": answered " + got + ", due is " + want);
        }
    }

    /** The call must throw just that, and change nothing that the bureau shows. */
    static void thrown(String what, Class<? extends RuntimeException> kind, StablepairBureau x, Call call) {
        String before = shown(x);
        Object got;
        try {
            got = call.answer();
        } catch (RuntimeException e) {
            got = e.getClass();
        }
        due(what, kind, got);
        due(what + " changes nothing", before, shown(x));
    }

    /** The call must answer that, and change nothing that the bureau shows. */
    static void quiet(String what, Object want, StablepairBureau x, Call call) {
        String before = shown(x);
        due(what, want, call.answer());
        due(what + " changes nothing", before, shown(x));
    }

    static void type(StablepairBureau x, String text) {
        for (char sign : text.toCharArray()) {
            x.type(sign);
        }
    }

    static int read(StablepairBureau x, char side, int who, String text) {
        x.erase();
        type(x, text);
        return x.read(side, who);
    }

    /** A bureau with these lists, those of a side parted by blanks, '-' for an empty one. */
    static StablepairBureau bureau(String persons, String houses) {
        StablepairBureau x = new StablepairBureau();
        String[] ofPersons = persons.isEmpty() ? new String[0] : persons.split(" ");
        String[] ofHouses = houses.isEmpty() ? new String[0] : houses.split(" ");
        for (int i = 0; i < ofPersons.length; i++) {
            x.add('p');
        }
        for (int i = 0; i < ofHouses.length; i++) {
            x.add('h');
        }
        fill(x, 'p', ofPersons);
        fill(x, 'h', ofHouses);
        return x;
    }

    static StablepairBureau mates(String lists) {
        StablepairBureau x = new StablepairBureau();
        String[] all = lists.split(" ");
        for (int i = 0; i < all.length; i++) {
            x.add('m');
        }
        fill(x, 'm', all);
        return x;
    }

    private static void fill(StablepairBureau x, char side, String[] lists) {
        for (int i = 0; i < lists.length; i++) {
            if (read(x, side, i, lists[i].equals("-") ? "" : lists[i]) < 0) {
                throw new IllegalArgumentException(lists[i]);
            }
        }
    }

    static String list(StablepairBureau x, char side, int who) {
        StringBuilder row = new StringBuilder();
        for (int place = 0; place < x.length(side, who); place++) {
            row.append(place == 0 ? "" : ">").append(x.wish(side, who, place));
        }
        return row.toString();
    }

    static String homes(StablepairBureau x) {
        StringBuilder row = new StringBuilder();
        for (int person = 0; person < x.many('p'); person++) {
            row.append(person == 0 ? "" : " ").append(x.houseOf(person));
        }
        return row.toString();
    }

    static String offersMade(StablepairBureau x) {
        StringBuilder row = new StringBuilder();
        for (int index = 0; index < x.offers(); index++) {
            row.append(index == 0 ? "" : " ").append(x.offerAt(index)).append(x.resultAt(index));
        }
        return row.toString();
    }

    static String heldBy(StablepairBureau x, int house) {
        StringBuilder row = new StringBuilder();
        for (int place = 0; place < x.held(house); place++) {
            row.append(place == 0 ? "" : " ").append(x.heldAt(house, place));
        }
        return row.toString();
    }

    static String blocking(StablepairBureau x) {
        StringBuilder row = new StringBuilder();
        for (int index = 0; index < x.blocks(); index++) {
            row.append(index == 0 ? "" : " ").append(x.blockAt(index));
        }
        return row.toString();
    }

    static String canOffer(StablepairBureau x) {
        try {
            return "open " + x.open();
        } catch (IllegalStateException e) {
            return "no offers have begun";
        }
    }

    static String shown(StablepairBureau x) {
        StringBuilder all = new StringBuilder();
        all.append(x.checksum()).append("; ");
        all.append(x.many('p')).append(x.many('h')).append(x.many('m')).append("; ");
        all.append(homes(x)).append("; ").append(offersMade(x)).append("; ").append(canOffer(x)).append("; ");
        for (int house = 0; house < x.many('h'); house++) {
            all.append(heldBy(x, house)).append(", ");
        }
        return all.toString();
    }

    static void end() {
        System.out.println(done + " answers, " + wrong + " not as due");
        if (wrong != 0 || done == 0) {
            System.exit(1);
        }
    }
}
