/** Persons and houses of whose stable pairings much is known. */
final class Markets {
    static final String[] TEN_OF_FOUR = {"0123 1032 2301 3210", "3210 2301 1032 0123"};
    static final String[] THREE_OF_THREE = {"012 120 201", "120 201 012"};
    static final String[] TWO_OF_TWO = {"01 10", "10 01"};

    /** With 59, 60 and 61 stable pairings, as trying all orders of eight tells. */
    private static final String[][] EIGHT = {
        {"02134567 10352476 23016745 32107654 45067123 54176032 67452301 67543210",
            "76543210 67453201 54716032 45607132 31207654 23106745 10325476 01234567"},
        {"01234567 10325467 23016745 31027654 45670213 54761032 67452301 76543210",
            "76543201 67452031 57461032 45670123 32106754 23061475 10325467 01234567"},
        {"01234567 10352746 20316745 32107654 45670123 54716032 67452301 76453210",
            "76453210 67452103 54761032 45670123 32107654 20316745 10325476 01243567"},
    };

    private Markets() {
    }

    /** Three persons, each one's best house liking it least. */
    static StablepairBureau three() {
        return Check.bureau("0>1>2 1>2>0 2>0>1", "1>2>0 2>0>1 0>1>2");
    }

    /** So many, each one's list going round from its own number: all are in one ring, one time less than they are. */
    static StablepairBureau round(int many) {
        StringBuilder persons = new StringBuilder();
        StringBuilder houses = new StringBuilder();
        for (int who = 0; who < many; who++) {
            for (int place = 0; place < many; place++) {
                persons.append(place == 0 ? who == 0 ? "" : " " : ">").append((who + place) % many);
                houses.append(place == 0 ? who == 0 ? "" : " " : ">").append((who + 1 + place) % many);
            }
        }
        return Check.bureau(persons.toString(), houses.toString());
    }

    /** Puts persons and houses side by side that have nothing to do with one another: their numbers multiply. */
    static StablepairBureau beside(String[]... parts) {
        StringBuilder persons = new StringBuilder();
        StringBuilder houses = new StringBuilder();
        int shift = 0;
        for (String[] part : parts) {
            for (String list : part[0].split(" ")) {
                persons.append(persons.length() == 0 ? "" : " ").append(shifted(list, shift));
            }
            for (String list : part[1].split(" ")) {
                houses.append(houses.length() == 0 ? "" : " ").append(shifted(list, shift));
            }
            shift += part[0].split(" ").length;
        }
        return Check.bureau(persons.toString(), houses.toString());
    }

    private static String shifted(String list, int shift) {
        StringBuilder row = new StringBuilder();
        for (char sign : list.toCharArray()) {
            row.append(row.length() == 0 ? "" : ">").append(sign - '0' + shift);
        }
        return row.toString();
    }

    /** Eight who all list all, with 59, 60 or 61 stable pairings. */
    static StablepairBureau ofEight(int stables) {
        return beside(EIGHT[stables - 59]);
    }
}
