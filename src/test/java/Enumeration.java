import java.util.ArrayList;
import java.util.Arrays;
import java.util.List;

/**
 * All stable pairings of a market of any size, by trying who goes where. A try is left as soon as two of it block;
 * offers and rotations are not used, so that what the bureau finds by them can be held against it.
 */
final class Enumeration {
    static final int ALONE = -1;

    final int[][] persons;
    final int[][] houses;
    final int[] places;
    private final int[][] ofPersons;
    private final int[][] ofHouses;
    private final List<int[]> found = new ArrayList<>();

    Enumeration(int[][] persons, int[][] houses, int[] places) {
        this.persons = persons;
        this.houses = houses;
        this.places = places;
        ofPersons = ranks(persons, houses.length);
        ofHouses = ranks(houses, persons.length);
        go(new int[persons.length], 0, new int[houses.length]);
    }

    /** By the house of the person 0, then that of the person 1, and so on. */
    List<int[]> stables() {
        return found;
    }

    private static int[][] ranks(int[][] lists, int others) {
        int[][] ranks = new int[lists.length][others];
        for (int who = 0; who < lists.length; who++) {
            Arrays.fill(ranks[who], ALONE);
            for (int place = 0; place < lists[who].length; place++) {
                ranks[who][lists[who][place]] = place;
            }
        }
        return ranks;
    }

    int ofPerson(int person, int house) {
        return house == ALONE ? ALONE : ofPersons[person][house];
    }

    int ofHouse(int house, int person) {
        return ofHouses[house][person];
    }

    private void go(int[] homes, int person, int[] held) {
        if (person == homes.length) {
            if (!roomBlocks(homes, held)) {
                found.add(homes.clone());
            }
            return;
        }
        homes[person] = ALONE;
        if (!lastBlocks(homes, person)) {
            go(homes, person + 1, held);
        }
        for (int house = 0; house < houses.length; house++) {
            if (mutual(person, house) && held[house] < places[house]) {
                homes[person] = house;
                held[house]++;
                if (!lastBlocks(homes, person)) {
                    go(homes, person + 1, held);
                }
                held[house]--;
            }
        }
    }

    private boolean mutual(int person, int house) {
        return ofPersons[person][house] != ALONE && ofHouses[house][person] != ALONE;
    }

    private boolean wouldGo(int[] homes, int person, int house) {
        return mutual(person, house)
                && (homes[person] == ALONE || ofPersons[person][house] < ofPersons[person][homes[person]]);
    }

    /** Whether one of two would go to the other one's house, which would rather have it. */
    private boolean envies(int[] homes, int person, int other) {
        int house = homes[other];
        return house != ALONE && wouldGo(homes, person, house) && ofHouses[house][person] < ofHouses[house][other];
    }

    private boolean lastBlocks(int[] homes, int last) {
        for (int other = 0; other < last; other++) {
            if (envies(homes, last, other) || envies(homes, other, last)) {
                return true;
            }
        }
        return false;
    }

    private boolean roomBlocks(int[] homes, int[] held) {
        for (int person = 0; person < homes.length; person++) {
            for (int house = 0; house < houses.length; house++) {
                if (held[house] < places[house] && wouldGo(homes, person, house)) {
                    return true;
                }
            }
        }
        return false;
    }

    /** What each person has in the stable pairing that is best for all of them. */
    int[] personsBest() {
        int[] best = found.get(0).clone();
        for (int[] homes : found) {
            for (int person = 0; person < best.length; person++) {
                if (ofPerson(person, homes[person]) < ofPerson(person, best[person])) {
                    best[person] = homes[person];
                }
            }
        }
        return best;
    }

    Enumeration withPerson(int person, int[] list) {
        int[][] changed = persons.clone();
        changed[person] = list;
        return new Enumeration(changed, houses, places);
    }

    Enumeration withHouse(int house, int[] list) {
        int[][] changed = houses.clone();
        changed[house] = list;
        return new Enumeration(persons, changed, places);
    }
}
