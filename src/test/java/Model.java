import java.util.ArrayList;
import java.util.Arrays;
import java.util.Comparator;
import java.util.HashSet;
import java.util.LinkedHashMap;
import java.util.List;
import java.util.Map;
import java.util.NoSuchElementException;
import java.util.Set;
import java.util.TreeMap;
import java.util.TreeSet;
import java.util.function.Predicate;

/**
 * The bureau as the document defines it, by trying all: what is stable is found among all pairings, never by offers or
 * rotations. Slow, and for few who are on each other's lists only: see mayEnumerate().
 */
final class Model {
    private final Map<Character, List<List<Integer>>> lists = new TreeMap<>();
    private final List<Integer> places = new ArrayList<>();
    private final List<Integer> leasts = new ArrayList<>();
    private final Set<List<Integer>> gifts = new HashSet<>();
    private final List<Object[]> log = new ArrayList<>();
    private final Map<String, List<Map<Integer, Integer>>> known = new TreeMap<>();
    private String text = "";
    private Map<Integer, Integer> homes = new TreeMap<>();
    private char offering = 0;
    private Map<Integer, Integer> offered = new TreeMap<>();

    Model() {
        for (char side : new char[] {'p', 'h', 'm'}) {
            lists.put(side, new ArrayList<>());
        }
    }

    // ---- sides and lists

    private void must(boolean holds, RuntimeException otherwise) {
        if (!holds) {
            throw otherwise;
        }
    }

    private void side(char side) {
        must(lists.containsKey(side), new IllegalArgumentException());
    }

    private List<Integer> one(char side, int who) {
        side(side);
        must(who >= 0 && who < lists.get(side).size(), new NoSuchElementException());
        return lists.get(side).get(who);
    }

    private List<Integer> person(int who) {
        return one('p', who);
    }

    private List<Integer> house(int who) {
        return one('h', who);
    }

    private int count(char side) {
        return lists.get(side).size();
    }

    private void letGo() {
        homes.clear();
        offering = 0;
    }

    public int add(char side) {
        side(side);
        must(count(side) < 10, new IllegalStateException());
        lists.get(side).add(new ArrayList<>());
        if (side == 'h') {
            places.add(1);
            leasts.add(0);
        }
        letGo();
        return count(side) - 1;
    }

    public int many(char side) {
        side(side);
        return count(side);
    }

    public int places(int house, int number) {
        house(house);
        must(number >= 1 && number <= 4, new IllegalArgumentException());
        letGo();
        return places.set(house, number);
    }

    public int least(int house, int number) {
        house(house);
        must(number >= 0 && number <= 4, new IllegalArgumentException());
        return leasts.set(house, number);
    }

    public int type(char sign) {
        must(sign >= 32 && sign <= 126, new IllegalArgumentException());
        must(text.length() < 60, new IllegalStateException());
        text += sign;
        return text.length();
    }

    public int erase() {
        int size = text.length();
        text = "";
        return size;
    }

    public char signAt(int place) {
        must(place >= 0 && place < text.length(), new IndexOutOfBoundsException());
        return text.charAt(place);
    }

    /** The least of all faults, each kind looked for by itself; NONE is far above all. */
    private int fault(Predicate<Integer> allowed) {
        int fault = Integer.MAX_VALUE;
        for (int k = 0; k < text.length(); k++) {
            boolean digit = text.charAt(k) >= '0' && text.charAt(k) <= '9';
            boolean behindDigit = k > 0 && text.charAt(k - 1) >= '0' && text.charAt(k - 1) <= '9';
            boolean parts = text.charAt(k) == '>' || text.charAt(k) == '=';
            if (!digit && !(parts && behindDigit)) {
                fault = Math.min(fault, k);
                break;
            }
        }
        List<String> seen = new ArrayList<>();
        int start = 0;
        for (String number : text.split("[>=]", -1)) {
            String digits = number.replaceAll("[^0-9].*", "").replaceAll("^0+(?=.)", "");
            if (!digits.isEmpty()) {
                boolean good = digits.length() == 1 && allowed.test(Integer.parseInt(digits)) && !seen.contains(digits);
                fault = good ? fault : Math.min(fault, start);
                seen.add(digits);
            }
            start += number.length() + 1;
        }
        if (text.endsWith(">") || text.endsWith("=")) {
            fault = Math.min(fault, text.length());
        }
        return fault;
    }

    private List<Integer> parsed() {
        List<Integer> all = new ArrayList<>();
        for (String group : text.isEmpty() ? new String[0] : text.split(">")) {
            TreeSet<Integer> alike = new TreeSet<>();
            for (String number : group.split("=")) {
                alike.add(Integer.parseInt(number.replaceAll("^0+(?=.)", "")));
            }
            all.addAll(alike);
        }
        return all;
    }

    public int read(char side, int who) {
        one(side, who);
        char other = side == 'p' ? 'h' : side == 'h' ? 'p' : 'm';
        int fault = fault(n -> n < count(other) && !(side == 'm' && n == who));
        if (fault != Integer.MAX_VALUE) {
            text = "";
            return -1 - fault;
        }
        lists.get(side).set(who, parsed());
        text = "";
        letGo();
        return lists.get(side).get(who).size();
    }

    public int length(char side, int who) {
        return one(side, who).size();
    }

    public int wish(char side, int who, int place) {
        List<Integer> list = one(side, who);
        must(place >= 0 && place < list.size(), new IndexOutOfBoundsException());
        return list.get(place);
    }

    public int rank(char side, int who, int other) {
        return one(side, who).indexOf(other);
    }

    public int cut(char side, int who, int length) {
        List<Integer> list = one(side, who);
        must(length >= 0 && length <= list.size(), new IndexOutOfBoundsException());
        int gone = list.size() - length;
        lists.get(side).set(who, new ArrayList<>(list.subList(0, length)));
        letGo();
        return gone;
    }

    // ---- offers

    private List<Integer> holders(Map<Integer, Integer> pairing, int house) {
        List<Integer> all = new ArrayList<>();
        for (int person : lists.get('h').get(house)) {
            if (pairing.getOrDefault(person, -1) == house) {
                all.add(person);
            }
        }
        return all;
    }

    private List<Integer> able() {
        List<Integer> all = new ArrayList<>();
        for (int who = 0; who < count(offering); who++) {
            boolean free = offering == 'p' ? !homes.containsKey(who) : holders(homes, who).size() < places.get(who);
            if (free && offered.getOrDefault(who, 0) < lists.get(offering).get(who).size()) {
                all.add(who);
            }
        }
        return all;
    }

    private void offerSide(char side) {
        must(side == 'p' || side == 'h', new IllegalArgumentException());
    }

    public int begin(char side) {
        offerSide(side);
        letGo();
        offering = side;
        offered = new TreeMap<>();
        log.clear();
        return able().size();
    }

    public char offer(int who) {
        must(offering != 0, new IllegalStateException());
        one(offering, who);
        must(able().contains(who), new UnsupportedOperationException());
        int other = lists.get(offering).get(who).get(offered.merge(who, 1, Integer::sum) - 1);
        char result = offering == 'p' ? asked(who, other) : answered(who, other);
        log.add(new Object[] {10 * who + other, result});
        return result;
    }

    private char asked(int person, int house) {
        List<Integer> list = lists.get('h').get(house);
        if (!list.contains(person)) {
            return 'r';
        }
        List<Integer> holders = holders(homes, house);
        if (holders.size() < places.get(house)) {
            homes.put(person, house);
            return 'h';
        }
        int last = holders.get(holders.size() - 1);
        if (list.indexOf(last) < list.indexOf(person)) {
            return 'r';
        }
        homes.remove(last);
        homes.put(person, house);
        return 'x';
    }

    private char answered(int house, int person) {
        List<Integer> list = lists.get('p').get(person);
        if (!list.contains(house)) {
            return 'r';
        }
        if (!homes.containsKey(person)) {
            homes.put(person, house);
            return 'h';
        }
        if (list.indexOf(homes.get(person)) < list.indexOf(house)) {
            return 'r';
        }
        homes.put(person, house);
        return 'x';
    }

    public int open() {
        must(offering != 0, new IllegalStateException());
        return able().size();
    }

    public int run(char side) {
        begin(side);
        while (!able().isEmpty()) {
            offer(able().get(0));
        }
        return log.size();
    }

    public int offers() {
        return log.size();
    }

    public int offerAt(int index) {
        must(index >= 0 && index < log.size(), new IndexOutOfBoundsException());
        return (Integer) log.get(index)[0];
    }

    public char resultAt(int index) {
        must(index >= 0 && index < log.size(), new IndexOutOfBoundsException());
        return (Character) log.get(index)[1];
    }

    // ---- pairings

    private boolean mutual(int person, int house) {
        return lists.get('p').get(person).contains(house) && lists.get('h').get(house).contains(person);
    }

    public int pair(int person, int house) {
        person(person);
        house(house);
        must(mutual(person, house), new IllegalArgumentException());
        must(homes.getOrDefault(person, -1) != house, new UnsupportedOperationException());
        must(holders(homes, house).size() < places.get(house), new UnsupportedOperationException());
        homes.put(person, house);
        offering = 0;
        return held(house);
    }

    public int part(int person) {
        person(person);
        offering = 0;
        Integer house = homes.remove(person);
        return house == null ? -1 : house;
    }

    public int houseOf(int person) {
        person(person);
        return homes.getOrDefault(person, -1);
    }

    public int held(int house) {
        house(house);
        return holders(homes, house).size();
    }

    public int heldAt(int house, int place) {
        house(house);
        must(place >= 0 && place < holders(homes, house).size(), new IndexOutOfBoundsException());
        return holders(homes, house).get(place);
    }

    private boolean wouldHold(Map<Integer, Integer> pairing, int house, int person) {
        List<Integer> list = lists.get('h').get(house);
        List<Integer> holders = holders(pairing, house);
        boolean behind = false;
        for (int holder : holders) {
            behind |= list.indexOf(holder) > list.indexOf(person);
        }
        return list.contains(person) && (holders.size() < places.get(house) || behind);
    }

    private List<Integer> blocking(Map<Integer, Integer> pairing) {
        List<Integer> all = new ArrayList<>();
        for (int person = 0; person < count('p'); person++) {
            List<Integer> list = lists.get('p').get(person);
            Integer home = pairing.get(person);
            for (int house = 0; house < count('h'); house++) {
                boolean apart = home == null || home != house;
                boolean wants = home == null || list.indexOf(home) > list.indexOf(house);
                if (apart && mutual(person, house) && wants && wouldHold(pairing, house, person)) {
                    all.add(10 * person + house);
                }
            }
        }
        return all;
    }

    public int blocks() {
        return blocking(homes).size();
    }

    public int blockAt(int index) {
        List<Integer> all = blocking(homes);
        must(index >= 0 && index < all.size(), new IndexOutOfBoundsException());
        return all.get(index);
    }

    public boolean isStable() {
        return blocking(homes).isEmpty();
    }

    public int filled(int house) {
        house(house);
        Set<Integer> numbers = new TreeSet<>();
        for (Map<Integer, Integer> stable : allStable()) {
            numbers.add(holders(stable, house).size());
        }
        if (numbers.size() != 1) {
            throw new AssertionError(numbers);
        }
        return numbers.iterator().next();
    }

    public int lacks(int house) {
        house(house);
        return Math.max(0, leasts.get(house) - filled(house));
    }

    // ---- the lattice

    /** Whether there are few enough pairings to try them all. */
    boolean mayEnumerate() {
        long all = 1;
        for (int person = 0; person < count('p'); person++) {
            long ways = 1;
            for (int house = 0; house < count('h'); house++) {
                ways += mutual(person, house) ? 1 : 0;
            }
            all *= ways;
        }
        return all <= 8000;
    }

    private List<Map<Integer, Integer>> allStable() {
        String market = lists.get('p') + " " + lists.get('h') + " " + places;
        if (!known.containsKey(market)) {
            List<Map<Integer, Integer>> found = new ArrayList<>();
            tryAll(0, new TreeMap<>(), found);
            found.sort(Comparator.comparing(this::order, Arrays::compare));
            known.put(market, found);
        }
        List<Map<Integer, Integer>> copies = new ArrayList<>();
        for (Map<Integer, Integer> stable : known.get(market)) {
            copies.add(new TreeMap<>(stable));
        }
        return copies;
    }

    private int[] order(Map<Integer, Integer> pairing) {
        int[] row = new int[count('p')];
        for (int person = 0; person < row.length; person++) {
            row[person] = pairing.getOrDefault(person, -1);
        }
        return row;
    }

    private void tryAll(int person, Map<Integer, Integer> pairing, List<Map<Integer, Integer>> found) {
        if (person == count('p')) {
            if (blocking(pairing).isEmpty()) {
                found.add(new TreeMap<>(pairing));
            }
            return;
        }
        tryAll(person + 1, pairing, found);
        for (int house = 0; house < count('h'); house++) {
            if (mutual(person, house) && holders(pairing, house).size() < places.get(house)) {
                pairing.put(person, house);
                tryAll(person + 1, pairing, found);
                pairing.remove(person);
            }
        }
    }

    private Map<Integer, Integer> nextHouses() {
        Map<Integer, Integer> next = new TreeMap<>();
        for (Map.Entry<Integer, Integer> pair : homes.entrySet()) {
            List<Integer> list = lists.get('p').get(pair.getKey());
            for (int house : list.subList(list.indexOf(pair.getValue()) + 1, list.size())) {
                if (wouldHold(homes, house, pair.getKey())) {
                    if (holders(homes, house).size() == places.get(house)) {
                        next.put(pair.getKey(), house);
                    }
                    break;
                }
            }
        }
        return next;
    }

    private List<List<Integer>> rings() {
        must(isStable(), new IllegalStateException());
        Map<Integer, Integer> next = new LinkedHashMap<>();
        nextHouses().forEach((person, house) -> {
            List<Integer> holders = holders(homes, house);
            next.put(person, holders.get(holders.size() - 1));
        });
        return ringsOf(next, count('p'));
    }

    private static List<List<Integer>> ringsOf(Map<Integer, Integer> next, int bound) {
        List<List<Integer>> rings = new ArrayList<>();
        for (int start = 0; start < bound; start++) {
            List<Integer> ring = new ArrayList<>();
            Integer at = start;
            while (at != null && !ring.contains(at)) {
                ring.add(at);
                at = next.get(at);
            }
            boolean lowest = ring.stream().min(Integer::compare).get() == start;
            if (at != null && at == start && lowest) {
                rings.add(ring);
            }
        }
        return rings;
    }

    private List<Integer> ring(int index) {
        List<List<Integer>> rings = rings();
        must(index >= 0 && index < rings.size(), new IndexOutOfBoundsException());
        return rings.get(index);
    }

    public int rotations() {
        return rings().size();
    }

    public int rotationLength(int index) {
        return ring(index).size();
    }

    public int rotationAt(int index, int place) {
        List<Integer> ring = ring(index);
        must(place >= 0 && place < ring.size(), new IndexOutOfBoundsException());
        return ring.get(place);
    }

    public int turn(int index) {
        List<Integer> ring = ring(index);
        Map<Integer, Integer> next = nextHouses();
        for (int person : ring) {
            homes.put(person, next.get(person));
        }
        offering = 0;
        return rotations();
    }

    private List<Map<Integer, Integer>> fewStable() {
        List<Map<Integer, Integer>> all = allStable();
        must(all.size() <= 60, new UnsupportedOperationException());
        return all;
    }

    public int stables() {
        return fewStable().size();
    }

    public int stableAt(int index) {
        List<Map<Integer, Integer>> all = fewStable();
        must(index >= 0 && index < all.size(), new IndexOutOfBoundsException());
        homes = all.get(index);
        offering = 0;
        return homes.size();
    }

    public int fairest(char kind) {
        must(kind == 's' || kind == 'w', new IllegalArgumentException());
        Map<Integer, Integer> best = null;
        int least = Integer.MAX_VALUE;
        for (Map<Integer, Integer> stable : fewStable()) {
            List<Integer> all = new ArrayList<>(List.of(0));
            stable.forEach((person, house) -> {
                all.add(lists.get('p').get(person).indexOf(house));
                all.add(lists.get('h').get(house).indexOf(person));
            });
            int value = kind == 's' ? all.stream().mapToInt(n -> n).sum() : all.stream().max(Integer::compare).get();
            if (value < least) {
                least = value;
                best = stable;
            }
        }
        homes = best;
        offering = 0;
        return least;
    }

    // ---- false lists and changes

    /** The stable pairing in which each person has the best house that it has in any. */
    private Map<Integer, Integer> personsBest() {
        Map<Integer, Integer> best = null;
        int least = Integer.MAX_VALUE;
        for (Map<Integer, Integer> stable : allStable()) {
            int sum = 0;
            for (Map.Entry<Integer, Integer> pair : stable.entrySet()) {
                sum += lists.get('p').get(pair.getKey()).indexOf(pair.getValue());
            }
            if (sum < least) {
                least = sum;
                best = stable;
            }
        }
        return best;
    }

    private Map<Integer, Integer> personsBestWith(char side, int who, List<Integer> list) {
        List<Integer> own = lists.get(side).set(who, list);
        Map<Integer, Integer> best = personsBest();
        lists.get(side).set(who, own);
        return best;
    }

    private int[] cutting(int house) {
        List<Integer> list = house(house);
        must(places.get(house) == 1, new UnsupportedOperationException());
        int[] best = {-1, list.size()};
        for (int length = list.size(); length >= 0; length--) {
            Map<Integer, Integer> pairing = personsBestWith('h', house, list.subList(0, length));
            List<Integer> holders = holders(pairing, house);
            if (!holders.isEmpty()) {
                int place = list.indexOf(holders.get(0));
                if (best[0] == -1 || place < best[0]) {
                    best = new int[] {place, length};
                }
            }
        }
        return best;
    }

    public int gain(int house) {
        return cutting(house)[0];
    }

    public int cutFor(int house) {
        return cutting(house)[1];
    }

    public int lie(int person) {
        List<Integer> own = person(person);
        int fault = fault(n -> n < count('h'));
        List<Integer> told = fault == Integer.MAX_VALUE ? parsed() : null;
        text = "";
        if (told == null) {
            return -2 - fault;
        }
        Integer house = personsBestWith('p', person, told).get(person);
        return house == null ? -1 : own.contains(house) ? own.indexOf(house) : 90;
    }

    private int moved(Map<Integer, Integer> after, int skipped) {
        Map<Integer, Integer> before = personsBest();
        int moved = 0;
        for (int person = 0; person < count('p'); person++) {
            boolean same = before.getOrDefault(person, -1).equals(after.getOrDefault(person, -1));
            moved += person == skipped || same ? 0 : 1;
        }
        return moved;
    }

    public int without(int person) {
        person(person);
        return moved(personsBestWith('p', person, List.of()), person);
    }

    public int withoutHouse(int house) {
        house(house);
        return moved(personsBestWith('h', house, List.of()), -1);
    }

    // ---- mates, trade, exchange

    private List<int[]> allRooms() {
        must(count('m') <= 8, new UnsupportedOperationException());
        List<int[]> found = new ArrayList<>();
        int[] row = new int[count('m')];
        Arrays.fill(row, -1);
        tryRooms(0, row, found);
        found.sort(Arrays::compare);
        return found;
    }

    private void tryRooms(int mate, int[] row, List<int[]> found) {
        if (mate == row.length) {
            if (roomsStable(row)) {
                found.add(row.clone());
            }
            return;
        }
        tryRooms(mate + 1, row, found);
        for (int other = mate + 1; other < row.length && row[mate] == -1; other++) {
            if (row[other] == -1 && likes(mate, other) && likes(other, mate)) {
                row[mate] = other;
                row[other] = mate;
                tryRooms(mate + 1, row, found);
                row[mate] = -1;
                row[other] = -1;
            }
        }
    }

    private boolean likes(int mate, int other) {
        return lists.get('m').get(mate).contains(other);
    }

    private boolean roomsStable(int[] row) {
        for (int mate = 0; mate < row.length; mate++) {
            for (int other = 0; other < row.length; other++) {
                List<Integer> list = lists.get('m').get(mate);
                List<Integer> back = lists.get('m').get(other);
                if (mate != other && row[mate] != other && likes(mate, other) && likes(other, mate)
                        && (row[mate] == -1 || list.indexOf(row[mate]) > list.indexOf(other))
                        && (row[other] == -1 || back.indexOf(row[other]) > back.indexOf(mate))) {
                    return false;
                }
            }
        }
        return true;
    }

    public int rooms() {
        return allRooms().size();
    }

    public int roomOf(int mate) {
        one('m', mate);
        List<int[]> all = allRooms();
        must(!all.isEmpty(), new IllegalStateException());
        return all.get(0)[mate];
    }

    /** By persons: the house got, the round; and behind all the number of rings. */
    private int[][] traded() {
        must(count('p') == count('h'), new UnsupportedOperationException());
        int[][] row = new int[count('p') + 1][2];
        Set<Integer> left = new TreeSet<>();
        for (int person = 0; person < count('p'); person++) {
            left.add(person);
        }
        for (int round = 1; !left.isEmpty(); round++) {
            Map<Integer, Integer> points = new TreeMap<>();
            for (int person : left) {
                List<Integer> list = new ArrayList<>(lists.get('p').get(person));
                list.add(person);
                list.retainAll(left);
                points.put(person, list.get(0));
            }
            for (List<Integer> ring : ringsOf(points, count('p'))) {
                if (!left.containsAll(ring)) {
                    continue;
                }
                row[count('p')][0]++;
                left.removeAll(ring);
                for (int person : ring) {
                    row[person] = new int[] {points.get(person), round};
                }
            }
        }
        return row;
    }

    public int trade() {
        return traded()[count('p')][0];
    }

    public int tradeOf(int person) {
        person(person);
        return traded()[person][0];
    }

    public int tradeRound(int person) {
        person(person);
        return traded()[person][1];
    }

    public boolean give(int couple, int other, boolean can) {
        must(couple >= 0 && couple < 9 && other >= 0 && other < 9 && couple != other, new IllegalArgumentException());
        List<Integer> gift = List.of(couple, other);
        return can ? !gifts.add(gift) : gifts.remove(gift);
    }

    public int helped(int most) {
        must(most == 2 || most == 3, new IllegalArgumentException());
        return helpedAmong(most, new TreeSet<>(List.of(0, 1, 2, 3, 4, 5, 6, 7, 8)));
    }

    private int helpedAmong(int most, TreeSet<Integer> left) {
        if (left.isEmpty()) {
            return 0;
        }
        TreeSet<Integer> rest = new TreeSet<>(left);
        int first = rest.pollFirst();
        int best = helpedAmong(most, rest);
        for (int second : rest) {
            if (gifts.contains(List.of(first, second))) {
                TreeSet<Integer> less = new TreeSet<>(rest);
                less.remove(second);
                if (gifts.contains(List.of(second, first))) {
                    best = Math.max(best, 2 + helpedAmong(most, less));
                }
                for (int third : most == 3 ? less : new TreeSet<Integer>()) {
                    if (gifts.contains(List.of(second, third)) && gifts.contains(List.of(third, first))) {
                        TreeSet<Integer> least = new TreeSet<>(less);
                        least.remove(third);
                        best = Math.max(best, 3 + helpedAmong(most, least));
                    }
                }
            }
        }
        return best;
    }

    // ---- figures

    public double meanRank(char side) {
        offerSide(side);
        must(!homes.isEmpty(), new ArithmeticException());
        int sum = 0;
        for (Map.Entry<Integer, Integer> pair : homes.entrySet()) {
            sum += side == 'p' ? person(pair.getKey()).indexOf(pair.getValue())
                    : house(pair.getValue()).indexOf(pair.getKey());
        }
        return (double) sum / (double) homes.size();
    }

    public float pairedShare() {
        must(count('p') > 0, new ArithmeticException());
        return (float) homes.size() / (float) count('p');
    }

    public long checksum() {
        List<Integer> all = new ArrayList<>();
        for (char side : new char[] {'p', 'h', 'm'}) {
            for (List<Integer> list : lists.get(side)) {
                all.add(list.size());
                all.addAll(list);
            }
        }
        for (int house = 0; house < count('h'); house++) {
            all.add(places.get(house));
            all.add(leasts.get(house));
        }
        for (int person = 0; person < count('p'); person++) {
            all.add(homes.getOrDefault(person, -1));
        }
        for (int couple = 0; couple < 9; couple++) {
            for (int other = 0; other < 9; other++) {
                if (couple != other) {
                    all.add(gifts.contains(List.of(couple, other)) ? 1 : 0);
                }
            }
        }
        for (char sign : text.toCharArray()) {
            all.add((int) sign);
        }
        long sum = 7;
        for (int number : all) {
            sum = 31 * sum + number;
        }
        return sum;
    }

    public boolean isTrue() {
        return true;
    }
}
