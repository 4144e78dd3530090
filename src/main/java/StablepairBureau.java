import java.util.Arrays;
import java.util.NoSuchElementException;

/**
 * A bureau of pairs that nobody would leave together: persons and houses with wishes, offers one by one, stable
 * pairings and their lattice, false lists, mates for rooms, rings of trade and of gifts.
 *
 * <p>The inner classes answer for any argument (NONE, 0 or false outside their bounds), so that no index needs a
 * second look where they are used; the outer class alone throws.
 */
public final class StablepairBureau {
    private static final int MOST = 10;
    private static final int NONE = -1;
    private static final int SIGNS = 60;
    private static final int MOST_PLACES = 4;
    private static final int MOST_STABLES = 60;
    private static final int MOST_ROOMMATES = 8;
    private static final int COUPLES = 9;
    private static final int NOT_ON_LIST = 90;

    private final Market market = new Market();
    private final Lists mates = new Lists();
    private final int[] leasts = new int[MOST];
    private final Text text = new Text();
    private final Pairing pairing = new Pairing();
    private final Offers offering = new Offers();
    private final Gifts gifts = new Gifts();

    // Room for what is only tried out: made once, since all calls of a run share the memory.
    private final Market trialMarket = new Market();
    private final Pairing trial = new Pairing();
    private final Pairing otherTrial = new Pairing();
    private final Offers trialOffers = new Offers();
    private final Rotations rings = new Rotations();
    private final Lattice lattice = new Lattice();
    private final Rooms roommates = new Rooms();
    private final Trade exchange = new Trade();

    public StablepairBureau() {
    }

    // ---- sides and lists

    public int add(char side) throws IllegalArgumentException, IllegalStateException {
        Lists lists = needSide(side);
        if (lists.count >= MOST) {
            throw new IllegalStateException("there are ten of them");
        }
        int number = lists.count;
        lists.grow();
        letAllGo();
        return number;
    }

    public int many(char side) throws IllegalArgumentException {
        return needSide(side).count;
    }

    public int places(int house, int places) throws NoSuchElementException, IllegalArgumentException {
        needHouse(house);
        if (places < 1 || places > MOST_PLACES) {
            throw new IllegalArgumentException("places are 1 to 4");
        }
        int before = market.placesOf(house);
        market.setPlaces(house, places);
        letAllGo();
        return before;
    }

    public int least(int house, int number) throws NoSuchElementException, IllegalArgumentException {
        needHouse(house);
        if (number < 0 || number > MOST_PLACES) {
            throw new IllegalArgumentException("a least number is 0 to 4");
        }
        int before = leastOf(house);
        if (house >= 0 && house < MOST) {
            leasts[house] = number;
        }
        return before;
    }

    public int type(char sign) throws IllegalArgumentException, IllegalStateException {
        if (sign < 32 || sign > 126) {
            throw new IllegalArgumentException("codes are 32 to 126");
        }
        if (text.size >= SIGNS) {
            throw new IllegalStateException("the text has 60 signs");
        }
        text.append(sign);
        return text.size;
    }

    public int erase() {
        int before = text.size;
        text.clear();
        return before;
    }

    public char signAt(int place) throws IndexOutOfBoundsException {
        if (place < 0 || place >= text.size) {
            throw new IndexOutOfBoundsException("no such place in the text");
        }
        return text.sign(place);
    }

    public int read(char side, int who) throws IllegalArgumentException, NoSuchElementException {
        Lists lists = needOne(side, who);
        int fault = text.parse(otherSideOf(side).count, side == 'm' ? who : NONE);
        text.clear();
        if (fault != NONE) {
            return -1 - fault;
        }
        lists.replace(who, text.numbers, text.found);
        letAllGo();
        return lists.sizeOf(who);
    }

    public int length(char side, int who) throws IllegalArgumentException, NoSuchElementException {
        return needOne(side, who).sizeOf(who);
    }

    public int wish(char side, int who, int place)
            throws IllegalArgumentException, NoSuchElementException, IndexOutOfBoundsException {
        Lists lists = needOne(side, who);
        if (place < 0 || place >= lists.sizeOf(who)) {
            throw new IndexOutOfBoundsException("no such place on the list");
        }
        return lists.wishAt(who, place);
    }

    public int rank(char side, int who, int other) throws IllegalArgumentException, NoSuchElementException {
        return needOne(side, who).placeOf(who, other);
    }

    public int cut(char side, int who, int length)
            throws IllegalArgumentException, NoSuchElementException, IndexOutOfBoundsException {
        Lists lists = needOne(side, who);
        int before = lists.sizeOf(who);
        if (length < 0 || length > before) {
            throw new IndexOutOfBoundsException("the list is not that long");
        }
        lists.shorten(who, length);
        letAllGo();
        return before - length;
    }

    // ---- offers

    public int begin(char side) throws IllegalArgumentException {
        needOfferSide(side);
        pairing.clear();
        offering.start(side);
        return offering.countAble(market, pairing);
    }

    public char offer(int who) throws IllegalStateException, NoSuchElementException, UnsupportedOperationException {
        needOffers();
        if (!offering.offerers(market).has(who)) {
            throw new NoSuchElementException("no such one on the side that offers");
        }
        if (!offering.canMake(market, pairing, who)) {
            throw new UnsupportedOperationException("it can make no offer");
        }
        return offering.make(market, pairing, who);
    }

    public int open() throws IllegalStateException {
        needOffers();
        return offering.countAble(market, pairing);
    }

    public int run(char side) throws IllegalArgumentException {
        needOfferSide(side);
        offering.makeAll(market, pairing, side, false);
        return offering.made;
    }

    public int offers() {
        return offering.made;
    }

    public int offerAt(int index) throws IndexOutOfBoundsException {
        needOfferIndex(index);
        return offering.askedAt(index);
    }

    public char resultAt(int index) throws IndexOutOfBoundsException {
        needOfferIndex(index);
        return offering.outcomeAt(index);
    }

    // ---- pairings

    public int pair(int person, int house)
            throws NoSuchElementException, IllegalArgumentException, UnsupportedOperationException {
        needPerson(person);
        needHouse(house);
        if (!market.areMutual(person, house)) {
            throw new IllegalArgumentException("one is not on the list of the other");
        }
        if (pairing.homeOf(person) == house || pairing.isFull(market, house)) {
            throw new UnsupportedOperationException("they are paired, or the house is full");
        }
        pairing.settle(person, house);
        offering.end();
        return pairing.loadOf(house);
    }

    public int part(int person) throws NoSuchElementException {
        needPerson(person);
        int house = pairing.leave(person);
        offering.end();
        return house;
    }

    public int houseOf(int person) throws NoSuchElementException {
        needPerson(person);
        return pairing.homeOf(person);
    }

    public int held(int house) throws NoSuchElementException {
        needHouse(house);
        return pairing.loadOf(house);
    }

    public int heldAt(int house, int place) throws NoSuchElementException, IndexOutOfBoundsException {
        needHouse(house);
        if (place < 0 || place >= pairing.loadOf(house)) {
            throw new IndexOutOfBoundsException("the house does not hold as many");
        }
        return pairing.tenant(market, house, place);
    }

    public int blocks() {
        return pairing.countBlocks(market);
    }

    public int blockAt(int index) throws IndexOutOfBoundsException {
        int code = pairing.blockNumber(market, index);
        if (code == NONE) {
            throw new IndexOutOfBoundsException("no such pair blocks");
        }
        return code;
    }

    public boolean isStable() {
        return pairing.isCalm(market);
    }

    public int filled(int house) throws NoSuchElementException {
        needHouse(house);
        return stableLoad(house);
    }

    public int lacks(int house) throws NoSuchElementException {
        needHouse(house);
        return Math.max(0, leastOf(house) - stableLoad(house));
    }

    // ---- the lattice

    public int rotations() throws IllegalStateException {
        findRotations();
        return rings.count;
    }

    public int rotationLength(int index) throws IllegalStateException, IndexOutOfBoundsException {
        needRotation(index);
        return rings.sizeOf(index);
    }

    public int rotationAt(int index, int place) throws IllegalStateException, IndexOutOfBoundsException {
        needRotation(index);
        if (place < 0 || place >= rings.sizeOf(index)) {
            throw new IndexOutOfBoundsException("no such place in the rotation");
        }
        return rings.memberAt(index, place);
    }

    public int turn(int index) throws IllegalStateException, IndexOutOfBoundsException {
        needRotation(index);
        rings.turnIn(pairing, index);
        offering.end();
        rings.find(market, pairing);
        return rings.count;
    }

    public int stables() throws UnsupportedOperationException {
        gatherStables();
        return lattice.count;
    }

    public int stableAt(int index) throws UnsupportedOperationException, IndexOutOfBoundsException {
        gatherStables();
        if (index < 0 || index >= lattice.count) {
            throw new IndexOutOfBoundsException("no such stable pairing");
        }
        adopt(index);
        return pairing.countPaired();
    }

    public int fairest(char kind) throws IllegalArgumentException, UnsupportedOperationException {
        if (kind != 's' && kind != 'w') {
            throw new IllegalArgumentException("kinds are 's' and 'w'");
        }
        gatherStables();
        int best = 0;
        int least = 0;
        for (int index = 0; index < lattice.count; index++) {
            trial.decode(lattice.codeAt(index), market.persons.count);
            int burden = kind == 's' ? trial.placeSum(market) : trial.greatestPlace(market);
            if (index == 0 || burden < least) {
                least = burden;
                best = index;
            }
        }
        adopt(best);
        return least;
    }

    // ---- false lists and changes

    public int gain(int house) throws NoSuchElementException, UnsupportedOperationException {
        needHouseOfOnePlace(house);
        int best = NONE;
        for (int length = 0; length <= market.houses.sizeOf(house); length++) {
            best = betterPlace(best, placeByCut(house, length));
        }
        return best;
    }

    public int cutFor(int house) throws NoSuchElementException, UnsupportedOperationException {
        needHouseOfOnePlace(house);
        int best = NONE;
        int longest = 0;
        for (int length = 0; length <= market.houses.sizeOf(house); length++) {
            int place = placeByCut(house, length);
            best = betterPlace(best, place);
            if (place == best) {
                longest = length;
            }
        }
        return longest;
    }

    public int lie(int person) throws NoSuchElementException {
        needPerson(person);
        int fault = text.parse(market.houses.count, NONE);
        text.clear();
        if (fault != NONE) {
            return -2 - fault;
        }
        trialMarket.copyFrom(market);
        trialMarket.persons.replace(person, text.numbers, text.found);
        trialOffers.makeAll(trialMarket, trial, 'p', false);
        int house = trial.homeOf(person);
        if (house == NONE) {
            return NONE;
        }
        int place = market.persons.placeOf(person, house);
        return place == NONE ? NOT_ON_LIST : place;
    }

    public int without(int person) throws NoSuchElementException {
        needPerson(person);
        trialOffers.makeAll(market, trial, 'p', false);
        trialMarket.copyFrom(market);
        trialMarket.persons.shorten(person, 0);
        trialOffers.makeAll(trialMarket, otherTrial, 'p', false);
        // The one who is not there is no other person.
        otherTrial.settle(person, trial.homeOf(person));
        return trial.countMoved(otherTrial);
    }

    public int withoutHouse(int house) throws NoSuchElementException {
        needHouse(house);
        trialOffers.makeAll(market, trial, 'p', false);
        trialMarket.copyFrom(market);
        trialMarket.houses.shorten(house, 0);
        trialOffers.makeAll(trialMarket, otherTrial, 'p', false);
        return trial.countMoved(otherTrial);
    }

    // ---- mates, trade, exchange

    public int rooms() throws UnsupportedOperationException {
        needFewMates();
        roommates.seek(mates);
        return roommates.count;
    }

    public int roomOf(int mate) throws NoSuchElementException, UnsupportedOperationException, IllegalStateException {
        if (!mates.has(mate)) {
            throw new NoSuchElementException("no such mate");
        }
        needFewMates();
        roommates.seek(mates);
        if (roommates.count == 0) {
            throw new IllegalStateException("no pairing of mates is stable");
        }
        return roommates.firstMateOf(mate);
    }

    public int trade() throws UnsupportedOperationException {
        needOwners();
        exchange.settleAll(market.persons);
        return exchange.rings;
    }

    public int tradeOf(int person) throws NoSuchElementException, UnsupportedOperationException {
        needPerson(person);
        needOwners();
        exchange.settleAll(market.persons);
        return exchange.houseGotBy(person);
    }

    public int tradeRound(int person) throws NoSuchElementException, UnsupportedOperationException {
        needPerson(person);
        needOwners();
        exchange.settleAll(market.persons);
        return exchange.roundOf(person);
    }

    public boolean give(int couple, int other, boolean can) throws IllegalArgumentException {
        if (!gifts.has(couple) || !gifts.has(other) || couple == other) {
            throw new IllegalArgumentException("no two such couples");
        }
        boolean before = gifts.canGive(couple, other);
        gifts.allow(couple, other, can);
        return before;
    }

    public int helped(int most) throws IllegalArgumentException {
        if (most < 2 || most > 3) {
            throw new IllegalArgumentException("a ring has at most 2 or 3 couples");
        }
        return gifts.mostHelped(most);
    }

    // ---- figures

    public double meanRank(char side) throws IllegalArgumentException, ArithmeticException {
        needOfferSide(side);
        int pairs = pairing.countPaired();
        if (pairs == 0) {
            throw new ArithmeticException("there are no pairs");
        }
        int sum = side == 'p' ? pairing.personsPlaceSum(market) : pairing.housesPlaceSum(market);
        return (double) sum / (double) pairs;
    }

    public float pairedShare() throws ArithmeticException {
        int all = market.persons.count;
        if (all == 0) {
            throw new ArithmeticException("there are no persons");
        }
        return (float) pairing.countPaired() / (float) all;
    }

    public long checksum() {
        long sum = market.persons.addTo(7L);
        sum = market.houses.addTo(sum);
        sum = mates.addTo(sum);
        for (int house = 0; house < market.houses.count; house++) {
            sum = 31L * sum + market.placesOf(house);
            sum = 31L * sum + leastOf(house);
        }
        for (int person = 0; person < market.persons.count; person++) {
            sum = 31L * sum + pairing.homeOf(person);
        }
        sum = gifts.addTo(sum);
        return text.addTo(sum);
    }

    public boolean isTrue() {
        trialOffers.makeAll(market, trial, 'p', false);
        trialOffers.makeAll(market, otherTrial, 'p', true);
        if (trial.countMoved(otherTrial) != 0) {
            return false;
        }
        trialOffers.makeAll(market, otherTrial, 'h', false);
        return trial.isCalm(market) && otherTrial.isCalm(market)
                && personsHoldTheorem() && housesHoldTheorem() && everyTurnIsCalm();
    }

    // ---- what the calls need

    private Lists needSide(char side) {
        if (side == 'p') {
            return market.persons;
        }
        if (side == 'h') {
            return market.houses;
        }
        if (side == 'm') {
            return mates;
        }
        throw new IllegalArgumentException("sides are 'p', 'h' and 'm'");
    }

    private Lists needOne(char side, int who) {
        Lists lists = needSide(side);
        if (!lists.has(who)) {
            throw new NoSuchElementException("no such one on this side");
        }
        return lists;
    }

    private Lists otherSideOf(char side) {
        if (side == 'p') {
            return market.houses;
        }
        return side == 'h' ? market.persons : mates;
    }

    private void needOfferSide(char side) {
        if (side != 'p' && side != 'h') {
            throw new IllegalArgumentException("sides are 'p' and 'h' here");
        }
    }

    private void needPerson(int person) {
        if (!market.persons.has(person)) {
            throw new NoSuchElementException("no such person");
        }
    }

    private void needHouse(int house) {
        if (!market.houses.has(house)) {
            throw new NoSuchElementException("no such house");
        }
    }

    private void needHouseOfOnePlace(int house) {
        needHouse(house);
        if (market.placesOf(house) != 1) {
            throw new UnsupportedOperationException("the house has more places than one");
        }
    }

    private void needOffers() {
        if (!offering.begun) {
            throw new IllegalStateException("no offers have begun");
        }
    }

    private void needOfferIndex(int index) {
        if (index < 0 || index >= offering.made) {
            throw new IndexOutOfBoundsException("no such offer");
        }
    }

    private void needFewMates() {
        if (mates.count > MOST_ROOMMATES) {
            throw new UnsupportedOperationException("there are more than 8 mates");
        }
    }

    private void needOwners() {
        if (market.persons.count != market.houses.count) {
            throw new UnsupportedOperationException("there are not as many houses as persons");
        }
    }

    private void needRotation(int index) {
        findRotations();
        if (index < 0 || index >= rings.count) {
            throw new IndexOutOfBoundsException("no such rotation");
        }
    }

    private void findRotations() {
        if (!pairing.isCalm(market)) {
            throw new IllegalStateException("the pairing is not stable");
        }
        rings.find(market, pairing);
    }

    private void gatherStables() {
        trialOffers.makeAll(market, trial, 'p', false);
        lattice.gather(market, trial, rings);
        if (lattice.count > MOST_STABLES) {
            throw new UnsupportedOperationException("there are more than 60 stable pairings");
        }
    }

    // ---- what the calls share

    private void letAllGo() {
        pairing.clear();
        offering.end();
    }

    private int leastOf(int house) {
        return house >= 0 && house < MOST ? leasts[house] : 0;
    }

    private void adopt(int stable) {
        pairing.decode(lattice.codeAt(stable), market.persons.count);
        offering.end();
    }

    private int stableLoad(int house) {
        // Every stable pairing fills a house alike, so any one of them tells.
        trialOffers.makeAll(market, trial, 'p', false);
        return trial.loadOf(house);
    }

    private int placeByCut(int house, int length) {
        trialMarket.copyFrom(market);
        trialMarket.houses.shorten(house, length);
        trialOffers.makeAll(trialMarket, trial, 'p', false);
        return market.houses.placeOf(house, trial.tenant(trialMarket, house, 0));
    }

    private static int betterPlace(int place, int other) {
        if (place == NONE || other == NONE) {
            return Math.max(place, other);
        }
        return Math.min(place, other);
    }

    /** Compares the pairing by the persons' offers in trial with that by the houses' in otherTrial. */
    private boolean personsHoldTheorem() {
        for (int person = 0; person < market.persons.count; person++) {
            int best = market.persons.placeOf(person, trial.homeOf(person));
            int worst = market.persons.placeOf(person, otherTrial.homeOf(person));
            if ((best == NONE) != (worst == NONE) || worst < best) {
                return false;
            }
        }
        return true;
    }

    private boolean housesHoldTheorem() {
        for (int house = 0; house < market.houses.count; house++) {
            if (trial.loadOf(house) != otherTrial.loadOf(house)) {
                return false;
            }
            if (!trial.isFull(market, house) && !trial.holdsSame(otherTrial, house)) {
                return false;
            }
            int load = trial.loadOf(house);
            int last = market.houses.placeOf(house, trial.tenant(market, house, load - 1));
            int otherLast = market.houses.placeOf(house, otherTrial.tenant(market, house, load - 1));
            if (otherLast > last) {
                return false;
            }
        }
        return true;
    }

    private boolean everyTurnIsCalm() {
        rings.find(market, trial);
        for (int index = 0; index < rings.count; index++) {
            otherTrial.copyFrom(trial);
            rings.turnIn(otherTrial, index);
            if (!otherTrial.isCalm(market)) {
                return false;
            }
        }
        return true;
    }

    /** The lists of one side. */
    private static final class Lists {
        private int count;
        private final int[] sizes = new int[MOST];
        private final int[] wished = new int[MOST * MOST];
        // One more than the place, so that a new row says of all that they are not on the list.
        private final int[] spots = new int[MOST * MOST];

        boolean has(int who) {
            return who >= 0 && who < count && who < MOST;
        }

        void grow() {
            if (count < MOST) {
                count++;
            }
        }

        int sizeOf(int who) {
            return who >= 0 && who < count && who < MOST ? sizes[who] : 0;
        }

        int wishAt(int who, int place) {
            if (who < 0 || who >= count || who >= MOST || place < 0 || place >= sizes[who] || place >= MOST) {
                return NONE;
            }
            return wished[MOST * who + place];
        }

        int placeOf(int who, int other) {
            if (who < 0 || who >= count || who >= MOST || other < 0 || other >= MOST) {
                return NONE;
            }
            return spots[MOST * who + other] - 1;
        }

        void shorten(int who, int size) {
            if (!has(who)) {
                return;
            }
            for (int place = sizes[who] - 1; place >= size && place >= 0; place--) {
                int other = wishAt(who, place);
                if (other >= 0 && other < MOST) {
                    spots[MOST * who + other] = 0;
                }
                sizes[who] = place;
            }
        }

        void replace(int who, int[] numbers, int size) {
            shorten(who, 0);
            for (int index = 0; index < size && index < numbers.length; index++) {
                append(who, numbers[index]);
            }
        }

        private void append(int who, int other) {
            int size = sizeOf(who);
            if (has(who) && other >= 0 && other < MOST && size < MOST) {
                wished[MOST * who + size] = other;
                spots[MOST * who + other] = size + 1;
                sizes[who] = size + 1;
            }
        }

        void copyFrom(Lists source) {
            count = source.count;
            System.arraycopy(source.sizes, 0, sizes, 0, MOST);
            System.arraycopy(source.wished, 0, wished, 0, MOST * MOST);
            System.arraycopy(source.spots, 0, spots, 0, MOST * MOST);
        }

        long addTo(long sum) {
            long next = sum;
            for (int who = 0; who < count; who++) {
                next = 31L * next + sizeOf(who);
                for (int place = 0; place < sizeOf(who); place++) {
                    next = 31L * next + wishAt(who, place);
                }
            }
            return next;
        }
    }

    /** Persons and houses with their lists, and the places of the houses. */
    private static final class Market {
        private final Lists persons = new Lists();
        private final Lists houses = new Lists();
        private final int[] places = new int[MOST];

        Market() {
            for (int house = 0; house < MOST; house++) {
                places[house] = 1;
            }
        }

        int placesOf(int house) {
            return house >= 0 && house < MOST ? places[house] : 1;
        }

        void setPlaces(int house, int number) {
            if (house >= 0 && house < MOST) {
                places[house] = number;
            }
        }

        boolean areMutual(int person, int house) {
            return persons.placeOf(person, house) != NONE && houses.placeOf(house, person) != NONE;
        }

        void copyFrom(Market source) {
            persons.copyFrom(source.persons);
            houses.copyFrom(source.houses);
            System.arraycopy(source.places, 0, places, 0, MOST);
        }
    }

    /** Which house each person has; whether that is stable depends on a market. */
    private static final class Pairing {
        private final int[] homes = new int[MOST];
        private final int[] loads = new int[MOST];

        Pairing() {
            for (int person = 0; person < MOST; person++) {
                homes[person] = NONE;
            }
        }

        void clear() {
            Arrays.fill(homes, NONE);
            Arrays.fill(loads, 0);
        }

        void copyFrom(Pairing source) {
            System.arraycopy(source.homes, 0, homes, 0, MOST);
            System.arraycopy(source.loads, 0, loads, 0, MOST);
        }

        int homeOf(int person) {
            return person >= 0 && person < MOST ? homes[person] : NONE;
        }

        int loadOf(int house) {
            return house >= 0 && house < MOST ? loads[house] : 0;
        }

        boolean isFull(Market market, int house) {
            return loadOf(house) >= market.placesOf(house);
        }

        int leave(int person) {
            if (person < 0 || person >= MOST) {
                return NONE;
            }
            int house = homes[person];
            if (house >= 0 && house < MOST) {
                homes[person] = NONE;
                loads[house]--;
            }
            return house;
        }

        void settle(int person, int house) {
            leave(person);
            if (person >= 0 && person < MOST && house >= 0 && house < MOST) {
                homes[person] = house;
                loads[house]++;
            }
        }

        int countPaired() {
            int paired = 0;
            for (int person = 0; person < MOST; person++) {
                if (homes[person] != NONE) {
                    paired++;
                }
            }
            return paired;
        }

        int countMoved(Pairing after) {
            int moved = 0;
            for (int person = 0; person < MOST; person++) {
                if (homes[person] != after.homes[person]) {
                    moved++;
                }
            }
            return moved;
        }

        boolean holdsSame(Pairing after, int house) {
            for (int person = 0; person < MOST; person++) {
                if ((homes[person] == house) != (after.homes[person] == house)) {
                    return false;
                }
            }
            return true;
        }

        /** Whom a house holds, by the order of its list. */
        int tenant(Market market, int house, int place) {
            int passed = 0;
            for (int spot = 0; spot < market.houses.sizeOf(house); spot++) {
                int person = market.houses.wishAt(house, spot);
                if (homeOf(person) == house) {
                    if (passed == place) {
                        return person;
                    }
                    passed++;
                }
            }
            return NONE;
        }

        /**
         * The place of a house's list ahead of which it would hold whoever stands there: that of the last one whom it
         * holds, if it is full, else MOST.
         */
        int barOf(Market market, int house) {
            if (loadOf(house) < market.placesOf(house)) {
                return MOST;
            }
            int last = NONE;
            for (int person = 0; person < MOST; person++) {
                if (homes[person] == house) {
                    last = Math.max(last, market.houses.placeOf(house, person));
                }
            }
            return last;
        }

        boolean isBlock(Market market, int person, int house) {
            if (!market.areMutual(person, house)) {
                return false;
            }
            int home = homeOf(person);
            // One's own house is not ahead of itself, so a pair never blocks itself.
            boolean wouldGo = home == NONE
                    || market.persons.placeOf(person, house) < market.persons.placeOf(person, home);
            return wouldGo && market.houses.placeOf(house, person) < barOf(market, house);
        }

        int countBlocks(Market market) {
            int blocks = 0;
            for (int code = 0; code < MOST * MOST; code++) {
                if (isBlock(market, code / MOST, code % MOST)) {
                    blocks++;
                }
            }
            return blocks;
        }

        int blockNumber(Market market, int index) {
            int passed = 0;
            for (int code = 0; code < MOST * MOST; code++) {
                if (isBlock(market, code / MOST, code % MOST)) {
                    if (passed == index) {
                        return code;
                    }
                    passed++;
                }
            }
            return NONE;
        }

        boolean isCalm(Market market) {
            for (int code = 0; code < MOST * MOST; code++) {
                if (isBlock(market, code / MOST, code % MOST)) {
                    return false;
                }
            }
            return true;
        }

        int personsPlaceSum(Market market) {
            int sum = 0;
            for (int person = 0; person < MOST; person++) {
                if (homes[person] != NONE) {
                    sum += market.persons.placeOf(person, homes[person]);
                }
            }
            return sum;
        }

        int housesPlaceSum(Market market) {
            int sum = 0;
            for (int person = 0; person < MOST; person++) {
                if (homes[person] != NONE) {
                    sum += market.houses.placeOf(homes[person], person);
                }
            }
            return sum;
        }

        int placeSum(Market market) {
            return personsPlaceSum(market) + housesPlaceSum(market);
        }

        int greatestPlace(Market market) {
            int greatest = 0;
            for (int person = 0; person < MOST; person++) {
                int home = homes[person];
                // Of one who is alone both places are NONE, which raises nothing.
                greatest = Math.max(greatest, market.persons.placeOf(person, home));
                greatest = Math.max(greatest, market.houses.placeOf(home, person));
            }
            return greatest;
        }

        /** One number for the pairing, such that pairings in their order have rising numbers. */
        long encode(int persons) {
            long code = 0L;
            for (int person = 0; person < persons; person++) {
                code = (MOST + 1) * code + (homeOf(person) + 1);
            }
            return code;
        }

        void decode(long code, int persons) {
            clear();
            long rest = code;
            for (int person = persons - 1; person >= 0; person--) {
                settle(person, (int) (rest % (MOST + 1)) - 1);
                rest = rest / (MOST + 1);
            }
        }
    }

    /** Offers of one side, and what was told of them; they stay told when the offers have ended. */
    private static final class Offers {
        private boolean begun;
        private boolean byHouses;
        private int made;
        private final int[] next = new int[MOST];
        private final int[] asked = new int[MOST * MOST];
        private final char[] outcomes = new char[MOST * MOST];

        void start(char side) {
            begun = true;
            byHouses = side == 'h';
            made = 0;
            Arrays.fill(next, 0);
        }

        void end() {
            begun = false;
        }

        Lists offerers(Market market) {
            return byHouses ? market.houses : market.persons;
        }

        int askedAt(int index) {
            return index >= 0 && index < made && index < MOST * MOST ? asked[index] : NONE;
        }

        char outcomeAt(int index) {
            return index >= 0 && index < made && index < MOST * MOST ? outcomes[index] : 'r';
        }

        boolean canMake(Market market, Pairing pairing, int who) {
            if (who < 0 || who >= MOST || next[who] >= offerers(market).sizeOf(who)) {
                return false;
            }
            return byHouses ? !pairing.isFull(market, who) : pairing.homeOf(who) == NONE;
        }

        int countAble(Market market, Pairing pairing) {
            int able = 0;
            for (int who = 0; who < MOST; who++) {
                if (canMake(market, pairing, who)) {
                    able++;
                }
            }
            return able;
        }

        private int chooseAble(Market market, Pairing pairing, boolean highestFirst) {
            for (int step = 0; step < MOST; step++) {
                int who = highestFirst ? MOST - 1 - step : step;
                if (canMake(market, pairing, who)) {
                    return who;
                }
            }
            return NONE;
        }

        /** Makes all offers of a side anew, always one of the one with the lowest number who can, or the highest. */
        void makeAll(Market market, Pairing pairing, char side, boolean highestFirst) {
            pairing.clear();
            start(side);
            // Each place of each list is offered to once at most, so there cannot be more offers than that.
            for (int step = 0; step < MOST * MOST; step++) {
                int who = chooseAble(market, pairing, highestFirst);
                if (who == NONE) {
                    return;
                }
                make(market, pairing, who);
            }
        }

        char make(Market market, Pairing pairing, int who) {
            if (who < 0 || who >= MOST) {
                return 'r';
            }
            int other = offerers(market).wishAt(who, next[who]);
            next[who]++;
            char outcome = byHouses ? askPerson(market, pairing, who, other) : askHouse(market, pairing, who, other);
            if (made >= 0 && made < MOST * MOST) {
                asked[made] = MOST * who + other;
                outcomes[made] = outcome;
                made++;
            }
            return outcome;
        }

        private static char askHouse(Market market, Pairing pairing, int person, int house) {
            int place = market.houses.placeOf(house, person);
            int bar = pairing.barOf(market, house);
            if (place == NONE || place >= bar) {
                return 'r';
            }
            if (bar < MOST) {
                pairing.leave(market.houses.wishAt(house, bar));
            }
            pairing.settle(person, house);
            return bar < MOST ? 'x' : 'h';
        }

        private static char askPerson(Market market, Pairing pairing, int house, int person) {
            int place = market.persons.placeOf(person, house);
            int home = pairing.homeOf(person);
            if (place == NONE || home != NONE && market.persons.placeOf(person, home) < place) {
                return 'r';
            }
            pairing.settle(person, house);
            return home == NONE ? 'h' : 'x';
        }
    }

    /** The text, and what it says when it is read as a list. */
    private static final class Text {
        private int size;
        private final char[] signs = new char[SIGNS];
        private int found;
        private final int[] numbers = new int[MOST];

        void append(char sign) {
            if (size >= 0 && size < SIGNS) {
                signs[size] = sign;
                size++;
            }
        }

        void clear() {
            size = 0;
        }

        char sign(int place) {
            return place >= 0 && place < size && place < SIGNS ? signs[place] : ' ';
        }

        private boolean isDigit(int place) {
            return sign(place) >= '0' && sign(place) <= '9';
        }

        /** Finds numbers below a limit, but for one that is barred; answers the fault, or NONE. */
        int parse(int limit, int barred) {
            found = 0;
            int groupStart = 0;
            int place = 0;
            while (place < size) {
                int start = place;
                int number = 0;
                while (place < size && isDigit(place)) {
                    // Held low, as sixty digits would go round; 99 is as much out of range as all above it.
                    number = Math.min(99, 10 * number + (sign(place) - '0'));
                    place++;
                }
                if (place == start) {
                    return place;
                }
                if (number >= limit || number == barred || isFound(number)) {
                    return start;
                }
                insert(number, groupStart);
                if (place >= size) {
                    return NONE;
                }
                if (sign(place) == '>') {
                    groupStart = found;
                } else if (sign(place) != '=') {
                    return place;
                }
                place++;
            }
            return size == 0 ? NONE : size;
        }

        private boolean isFound(int number) {
            for (int index = 0; index < found && index < MOST; index++) {
                if (numbers[index] == number) {
                    return true;
                }
            }
            return false;
        }

        private void insert(int number, int groupStart) {
            if (found < 0 || found >= MOST) {
                return;
            }
            int index = found;
            while (index > 0 && index > groupStart && numbers[index - 1] > number) {
                numbers[index] = numbers[index - 1];
                index--;
            }
            numbers[index] = number;
            found++;
        }

        long addTo(long sum) {
            long next = sum;
            for (int place = 0; place < size; place++) {
                next = 31L * next + sign(place);
            }
            return next;
        }
    }

    /** The rotations of a stable pairing. */
    private static final class Rotations {
        private int count;
        private final int[] nextHouses = new int[MOST];
        private final int[] nextPersons = new int[MOST];
        private final int[] bars = new int[MOST];
        private final int[] lowest = new int[MOST];
        private final int[] sizes = new int[MOST];

        void find(Market market, Pairing pairing) {
            for (int house = 0; house < MOST; house++) {
                bars[house] = pairing.barOf(market, house);
            }
            for (int person = 0; person < MOST; person++) {
                int house = nextHouse(market, person, pairing.homeOf(person));
                nextHouses[person] = house;
                boolean known = house >= 0 && house < MOST;
                nextPersons[person] = known ? market.houses.wishAt(house, bars[house]) : NONE;
            }
            count = 0;
            for (int person = 0; person < MOST; person++) {
                int size = ringSize(person);
                if (size > 0 && count >= 0 && count < MOST) {
                    lowest[count] = person;
                    sizes[count] = size;
                    count++;
                }
            }
        }

        private int nextHouse(Market market, int person, int home) {
            if (home == NONE) {
                return NONE;
            }
            for (int spot = market.persons.placeOf(person, home) + 1; spot < market.persons.sizeOf(person); spot++) {
                int house = market.persons.wishAt(person, spot);
                int place = market.houses.placeOf(house, person);
                if (house >= 0 && house < MOST && place != NONE && place < bars[house]) {
                    return bars[house] < MOST ? house : NONE;
                }
            }
            return NONE;
        }

        private int nextPerson(int person) {
            return person >= 0 && person < MOST ? nextPersons[person] : NONE;
        }

        /** How many are in the ring of a person, if it is the lowest one there, else 0. */
        private int ringSize(int person) {
            int at = nextPerson(person);
            int size = 1;
            while (at > person && size < MOST) {
                at = nextPerson(at);
                size++;
            }
            return at == person ? size : 0;
        }

        int sizeOf(int index) {
            return index >= 0 && index < count && index < MOST ? sizes[index] : 0;
        }

        int memberAt(int index, int place) {
            if (index < 0 || index >= count || index >= MOST) {
                return NONE;
            }
            int at = lowest[index];
            for (int step = 0; step < place && step < MOST; step++) {
                at = nextPerson(at);
            }
            return at;
        }

        void turnIn(Pairing pairing, int index) {
            for (int place = 0; place < sizeOf(index); place++) {
                int person = memberAt(index, place);
                if (person >= 0 && person < MOST) {
                    pairing.settle(person, nextHouses[person]);
                }
            }
        }
    }

    /** All stable pairings, as long as they are few. */
    private static final class Lattice {
        private int count;
        // One more than may be there, so that too many can be told.
        private final long[] codes = new long[MOST_STABLES + 1];
        private final Pairing visited = new Pairing();

        long codeAt(int index) {
            return index >= 0 && index < count && index <= MOST_STABLES ? codes[index] : 0L;
        }

        void gather(Market market, Pairing first, Rotations rings) {
            int persons = market.persons.count;
            count = 0;
            note(first.encode(persons));
            for (int index = 0; index < count && index <= MOST_STABLES; index++) {
                visited.decode(codes[index], persons);
                rings.find(market, visited);
                for (int turned = 0; turned < rings.count; turned++) {
                    visited.decode(codes[index], persons);
                    rings.turnIn(visited, turned);
                    note(visited.encode(persons));
                }
                if (count > MOST_STABLES) {
                    return;
                }
            }
            sort();
        }

        private void note(long code) {
            for (int index = 0; index < count && index <= MOST_STABLES; index++) {
                if (codes[index] == code) {
                    return;
                }
            }
            if (count >= 0 && count <= MOST_STABLES) {
                codes[count] = code;
                count++;
            }
        }

        private void sort() {
            for (int sorted = 1; sorted < count && sorted <= MOST_STABLES; sorted++) {
                long code = codes[sorted];
                int index = sorted;
                while (index > 0 && codes[index - 1] > code) {
                    codes[index] = codes[index - 1];
                    index--;
                }
                codes[index] = code;
            }
        }
    }

    /** The stable pairings of mates: how many, and the first one. */
    private static final class Rooms {
        private static final int UNDECIDED = -2;

        private int count;
        private final int[] partners = new int[MOST_ROOMMATES];
        private final int[] first = new int[MOST_ROOMMATES];

        void seek(Lists mates) {
            count = 0;
            Arrays.fill(partners, UNDECIDED);
            decide(this, mates, 0);
        }

        int firstMateOf(int mate) {
            return mate >= 0 && mate < MOST_ROOMMATES ? first[mate] : NONE;
        }

        /** Decides for one mate after the other, alone ahead of all, so that the first pairing comes first. */
        private static void decide(Rooms rooms, Lists mates, int mate) {
            if (rooms.isBlockedBy(mates, mate - 1)) {
                return;
            }
            if (mate < 0 || mate >= mates.count || mate >= MOST_ROOMMATES) {
                rooms.note();
                return;
            }
            if (rooms.partners[mate] != UNDECIDED) {
                decide(rooms, mates, mate + 1);
                return;
            }
            rooms.partners[mate] = NONE;
            decide(rooms, mates, mate + 1);
            for (int other = mate + 1; other < mates.count && other < MOST_ROOMMATES; other++) {
                boolean mutual = mates.placeOf(mate, other) != NONE && mates.placeOf(other, mate) != NONE;
                if (mutual && rooms.partners[other] == UNDECIDED) {
                    rooms.partners[mate] = other;
                    rooms.partners[other] = mate;
                    decide(rooms, mates, mate + 1);
                    rooms.partners[other] = UNDECIDED;
                }
            }
            rooms.partners[mate] = UNDECIDED;
        }

        private boolean isBlockedBy(Lists mates, int mate) {
            for (int other = 0; other < mate; other++) {
                if (wouldGo(mates, mate, other) && wouldGo(mates, other, mate)) {
                    return true;
                }
            }
            return false;
        }

        private boolean wouldGo(Lists mates, int mate, int other) {
            int place = mates.placeOf(mate, other);
            if (place == NONE || mate < 0 || mate >= MOST_ROOMMATES) {
                return false;
            }
            return partners[mate] == NONE || place < mates.placeOf(mate, partners[mate]);
        }

        private void note() {
            if (count == 0) {
                System.arraycopy(partners, 0, first, 0, MOST_ROOMMATES);
            }
            count++;
        }
    }

    /** The trade of houses, each person owning the house of its number. */
    private static final class Trade {
        private int rings;
        private final int[] targets = new int[MOST];
        private final int[] rounds = new int[MOST];

        void settleAll(Lists persons) {
            rings = 0;
            Arrays.fill(rounds, 0);
            // Each round has a ring, so that nobody is left after as many rounds as there are persons.
            for (int round = 1; round <= persons.count; round++) {
                settleRound(persons, round);
            }
        }

        int houseGotBy(int person) {
            return person >= 0 && person < MOST ? targets[person] : NONE;
        }

        int roundOf(int person) {
            return person >= 0 && person < MOST ? rounds[person] : 0;
        }

        private void settleRound(Lists persons, int round) {
            for (int person = 0; person < persons.count && person < MOST; person++) {
                if (rounds[person] == 0) {
                    targets[person] = firstLeft(persons, person);
                }
            }
            for (int person = 0; person < persons.count && person < MOST; person++) {
                if (rounds[person] == 0 && isInRing(person)) {
                    closeRing(person, round);
                }
            }
        }

        private int firstLeft(Lists persons, int person) {
            for (int place = 0; place < persons.sizeOf(person); place++) {
                int owner = persons.wishAt(person, place);
                if (owner >= 0 && owner < MOST && rounds[owner] == 0) {
                    return owner;
                }
            }
            return person;
        }

        private boolean isInRing(int person) {
            int at = houseGotBy(person);
            for (int step = 0; step < MOST && at != person; step++) {
                at = houseGotBy(at);
            }
            return at == person;
        }

        private void closeRing(int person, int round) {
            rings++;
            int at = person;
            for (int step = 0; step < MOST && at >= 0 && at < MOST && rounds[at] == 0; step++) {
                rounds[at] = round;
                at = targets[at];
            }
        }
    }

    /** Who can give to whom, and how many rings help at most. */
    private static final class Gifts {
        private final boolean[] can = new boolean[COUPLES * COUPLES];
        // By sets of couples, a bit each: how many of them can be helped.
        private final int[] best = new int[1 << COUPLES];

        boolean has(int couple) {
            return couple >= 0 && couple < COUPLES;
        }

        boolean canGive(int couple, int other) {
            return has(couple) && has(other) && can[COUPLES * couple + other];
        }

        void allow(int couple, int other, boolean whether) {
            if (has(couple) && has(other)) {
                can[COUPLES * couple + other] = whether;
            }
        }

        int mostHelped(int most) {
            for (int couple = 0; couple < COUPLES; couple++) {
                for (int lower = 0; lower < (1 << couple); lower++) {
                    best[lower | (1 << couple)] = bestWith(couple, lower, most);
                }
            }
            return best[(1 << COUPLES) - 1];
        }

        private int bestOf(int set) {
            return set >= 0 && set < best.length ? best[set] : 0;
        }

        private int bestWith(int couple, int lower, int most) {
            int helped = bestOf(lower);
            for (int second = 0; second < couple; second++) {
                if (((lower >> second) & 1) == 1 && canGive(couple, second)) {
                    int rest = lower ^ (1 << second);
                    if (canGive(second, couple)) {
                        helped = Math.max(helped, 2 + bestOf(rest));
                    }
                    if (most >= 3) {
                        helped = Math.max(helped, bestByThree(couple, second, rest));
                    }
                }
            }
            return helped;
        }

        private int bestByThree(int couple, int second, int rest) {
            int helped = 0;
            for (int third = 0; third < couple; third++) {
                if (((rest >> third) & 1) == 1 && canGive(second, third) && canGive(third, couple)) {
                    helped = Math.max(helped, 3 + bestOf(rest ^ (1 << third)));
                }
            }
            return helped;
        }

        long addTo(long sum) {
            long next = sum;
            for (int couple = 0; couple < COUPLES; couple++) {
                for (int other = 0; other < COUPLES; other++) {
                    if (other != couple) {
                        next = 31L * next + (canGive(couple, other) ? 1L : 0L);
                    }
                }
            }
            return next;
        }
    }
}
