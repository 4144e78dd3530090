import java.util.ArrayList;
import java.util.Arrays;
import java.util.List;
import java.util.TreeSet;

/** Markets of up to ten persons and ten houses of several places, drawn, against all their stable pairings. */
final class MarketsTest {
    private static final int MOST = 60;

    private static int most = 0;
    private static int tooMany = 0;
    private static long seed;

    private MarketsTest() {
    }

    public static void main(String[] args) {
        int drawn = args.length > 2 ? Integer.parseInt(args[2]) : 400;
        for (int number = 0; number < drawn; number++) {
            seed = 7919L * number + 5;
            Enumeration all = draw(number % 4);
            StablepairBureau x = bureau(all);
            String market = "market " + number;
            lattice(market, x, all);
            fairest(market, x, all);
            changes(market, x, all);
            Check.due(market + " isTrue", true, x.isTrue());
        }
        Check.due("some have more than sixty", true, tooMany > 0);
        Check.due("and some have many", true, most > 40);
        if (args.length > 2) {
            System.out.println(tooMany + " have more than sixty, of the others one has " + most);
        }
        Check.end();
    }

    private static int below(int bound) {
        seed = seed * 6364136223846793005L + 1442695040888963407L;
        return (int) ((seed >>> 33) % bound);
    }

    // ---- markets

    /** By kinds: of all sizes; all on all lists; whole lists that go against each other; these with several places. */
    private static Enumeration draw(int kind) {
        int persons = kind == 0 ? 1 + below(10) : 5 + below(6);
        int houses = kind == 0 ? 1 + below(10) : kind == 3 ? 2 + below(4) : persons;
        int[] places = new int[houses];
        for (int house = 0; house < houses; house++) {
            places[house] = kind == 0 && below(2) == 0 || kind == 3 ? 1 + below(4) : 1;
        }
        int[][] ofPersons = new int[persons][];
        int[][] ofHouses = new int[houses][];
        for (int person = 0; person < persons; person++) {
            ofPersons[person] = kind > 1 ? round(person % houses, houses) : shuffled(houses);
        }
        for (int house = 0; house < houses; house++) {
            ofHouses[house] = kind > 1 ? round((house + 1) % persons, persons) : shuffled(persons);
        }
        if (kind == 2 && below(2) == 0) {
            crossed(ofPersons, ofHouses);
        }
        disturb(ofPersons, kind);
        disturb(ofHouses, kind);
        return new Enumeration(ofPersons, ofHouses, places);
    }

    private static int[] round(int first, int bound) {
        int[] list = new int[bound];
        for (int place = 0; place < bound; place++) {
            list[place] = (first + place) % bound;
        }
        return list;
    }

    private static int[] shuffled(int bound) {
        int[] list = round(0, bound);
        for (int size = bound; size > 1; size--) {
            swap(list, size - 1, below(size));
        }
        return list;
    }

    private static void swap(int[] list, int one, int other) {
        int kept = list[one];
        list[one] = list[other];
        list[other] = kept;
    }

    /** The first eight by twos, fours and eights, as of each two the numbers differ: these have very many. */
    private static void crossed(int[][] persons, int[][] houses) {
        for (int who = 0; who < persons.length; who++) {
            int bound = persons.length;
            List<Integer> list = new ArrayList<>();
            for (int place = 0; place < 16; place++) {
                if ((who ^ place) < bound) {
                    list.add(who ^ place);
                }
            }
            for (int place = 0; place < bound; place++) {
                persons[who][place] = list.get(place);
                houses[who][place] = list.get(bound - 1 - place);
            }
        }
    }

    /** Some change places with their neighbours, and some lists get shorter. */
    private static void disturb(int[][] lists, int kind) {
        for (int who = 0; who < lists.length; who++) {
            for (int times = kind == 0 ? 0 : below(3); times > 0 && lists[who].length > 1; times--) {
                int place = below(lists[who].length - 1);
                swap(lists[who], place, place + 1);
            }
            if (below(kind == 0 ? 3 : 20) == 0) {
                lists[who] = Arrays.copyOf(lists[who], below(lists[who].length + 1));
            }
        }
    }

    private static String lists(int[][] lists) {
        StringBuilder all = new StringBuilder();
        for (int[] list : lists) {
            all.append(all.length() == 0 ? "" : " ").append(list.length == 0 ? "-" : text(list));
        }
        return all.toString();
    }

    private static String text(int[] list) {
        return row(list).replace(' ', '>');
    }

    private static String row(int[] numbers) {
        StringBuilder row = new StringBuilder();
        for (int number : numbers) {
            row.append(row.length() == 0 ? "" : " ").append(number);
        }
        return row.toString();
    }

    private static StablepairBureau bureau(Enumeration all) {
        StablepairBureau x = Check.bureau(lists(all.persons), lists(all.houses));
        for (int house = 0; house < all.houses.length; house++) {
            x.places(house, all.places[house]);
            x.least(house, below(5));
        }
        return x;
    }

    // ---- what is due

    private static void lattice(String market, StablepairBureau x, Enumeration all) {
        List<int[]> stables = all.stables();
        x.run('p');
        Check.due(market + " by the persons' offers", row(all.personsBest()), Check.homes(x));
        if (stables.size() > MOST) {
            tooMany++;
            Check.due(market + " stables", UnsupportedOperationException.class,
                    Twin.answer(x, StablepairBureau::stables));
            return;
        }
        most = Math.max(most, stables.size());
        Check.due(market + " stables", stables.size(), x.stables());
        for (int index = 0; index < stables.size(); index++) {
            int[] homes = stables.get(index);
            Check.due(market + " paired", paired(homes), x.stableAt(index));
            Check.due(market + " stable " + index, row(homes), Check.homes(x));
            Check.due(market + " stable", true, x.isStable());
            for (int house = 0; house < all.houses.length; house++) {
                Check.due(market + " filled", x.held(house), x.filled(house));
            }
            rotations(market, x, all, homes);
        }
        x.run('h');
        Check.due(market + " by the houses' offers", 0, x.rotations());
    }

    private static int paired(int[] homes) {
        int paired = 0;
        for (int home : homes) {
            paired += home == Enumeration.ALONE ? 0 : 1;
        }
        return paired;
    }

    /** Turning leads to just those that are worse for the persons, with none in between. */
    private static void rotations(String market, StablepairBureau x, Enumeration all, int[] homes) {
        TreeSet<String> due = new TreeSet<>();
        for (int[] next : all.stables()) {
            boolean direct = worse(all, homes, next);
            for (int[] between : all.stables()) {
                direct &= !(worse(all, homes, between) && worse(all, between, next));
            }
            if (direct) {
                due.add(row(next));
            }
        }
        TreeSet<String> got = new TreeSet<>();
        int rotations = x.rotations();
        for (int index = 0; index < rotations; index++) {
            for (int person = 0; person < homes.length; person++) {
                x.part(person);
            }
            for (int person = 0; person < homes.length; person++) {
                if (homes[person] != Enumeration.ALONE) {
                    x.pair(person, homes[person]);
                }
            }
            int length = x.rotationLength(index);
            Check.due(market + " rotations then", x.turn(index), x.rotations());
            Check.due(market + " so many moved", length, moved(homes, x));
            got.add(Check.homes(x));
        }
        Check.due(market + " all are others", rotations, got.size());
        Check.due(market + " turned from " + row(homes), due, got);
    }

    private static int moved(int[] homes, StablepairBureau x) {
        int moved = 0;
        for (int person = 0; person < homes.length; person++) {
            moved += x.houseOf(person) == homes[person] ? 0 : 1;
        }
        return moved;
    }

    private static boolean worse(Enumeration all, int[] homes, int[] others) {
        for (int person = 0; person < homes.length; person++) {
            if (all.ofPerson(person, others[person]) < all.ofPerson(person, homes[person])) {
                return false;
            }
        }
        return !Arrays.equals(homes, others);
    }

    private static void fairest(String market, StablepairBureau x, Enumeration all) {
        for (char kind : new char[] {'s', 'w'}) {
            int[] best = null;
            int least = Integer.MAX_VALUE;
            for (int[] homes : all.stables()) {
                int burden = burden(all, homes, kind);
                if (burden < least) {
                    least = burden;
                    best = homes;
                }
            }
            boolean few = all.stables().size() <= MOST;
            Object due = few ? (Object) least : UnsupportedOperationException.class;
            x.run('p');
            Check.due(market + " fairest " + kind, due, Twin.answer(x, y -> y.fairest(kind)));
            Check.due(market + " of kind " + kind, row(few ? best : all.personsBest()), Check.homes(x));
        }
    }

    private static int burden(Enumeration all, int[] homes, char kind) {
        int burden = 0;
        for (int person = 0; person < homes.length; person++) {
            if (homes[person] != Enumeration.ALONE) {
                int place = all.ofPerson(person, homes[person]);
                int back = all.ofHouse(homes[person], person);
                burden = kind == 's' ? burden + place + back : Math.max(burden, Math.max(place, back));
            }
        }
        return burden;
    }

    private static void changes(String market, StablepairBureau x, Enumeration all) {
        int[] best = all.personsBest();
        int person = below(best.length);
        int[] told = Arrays.copyOf(shuffled(all.houses.length), below(all.houses.length + 1));
        int got = all.withPerson(person, told).personsBest()[person];
        int place = all.ofPerson(person, got);
        x.erase();
        Check.type(x, text(told));
        Check.due(market + " lie", got == Enumeration.ALONE ? -1 : place < 0 ? 90 : place, x.lie(person));

        int[] after = all.withPerson(person, new int[0]).personsBest();
        after[person] = best[person];
        Check.due(market + " without", unlike(best, after), x.without(person));
        int house = below(all.houses.length);
        Check.due(market + " without the house", unlike(best, all.withHouse(house, new int[0]).personsBest()),
                x.withoutHouse(house));
        if (all.places[house] == 1) {
            cuts(market, x, all, house);
        }
    }

    private static int unlike(int[] homes, int[] others) {
        int unlike = 0;
        for (int person = 0; person < homes.length; person++) {
            unlike += homes[person] == others[person] ? 0 : 1;
        }
        return unlike;
    }

    private static void cuts(String market, StablepairBureau x, Enumeration all, int house) {
        int[] list = all.houses[house];
        int gain = Enumeration.ALONE;
        int longest = list.length;
        for (int length = list.length; length > 0; length--) {
            int[] homes = all.withHouse(house, Arrays.copyOf(list, length)).personsBest();
            for (int place = 0; place < length; place++) {
                if (homes[list[place]] == house && (gain == Enumeration.ALONE || place < gain)) {
                    gain = place;
                    longest = length;
                }
            }
        }
        Check.due(market + " gain", gain, x.gain(house));
        Check.due(market + " cutFor", longest, x.cutFor(house));
    }
}
