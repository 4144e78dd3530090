import java.util.ArrayList;
import java.util.HashSet;
import java.util.List;
import java.util.Set;

/** The theorem, and what isTrue() says of it, looked at by calls: at markets of few and many, and at drawn ones. */
final class TheoremBounds extends Bounds {
    private static long seed = 1;

    private TheoremBounds() {
    }

    static void all() {
        List<Twin.Maker> markets = markets();
        orders(markets);
        bestAndWorst(markets);
        filledAlike(markets);
        lattice(markets);
        lies(markets);
        trade();
        truth(markets);
    }

    private static int below(int bound) {
        seed = seed * 6364136223846793005L + 1442695040888963407L;
        return (int) ((seed >>> 33) % bound);
    }

    private static List<Twin.Maker> markets() {
        String[] two = Markets.TWO_OF_TWO;
        List<Twin.Maker> all = new ArrayList<>(List.of(StablepairBureau::new, () -> of(10, 10, 0), () -> of(0, 3, 0),
                () -> of(3, 0, 0), () -> Check.bureau("0", "0"), Markets::three, () -> Markets.round(10), Twin::busy,
                () -> Markets.beside(two, two, two, two, two), () -> Markets.ofEight(60)));
        for (int drawn = 0; drawn < 40; drawn++) {
            int persons = 1 + below(10);
            int houses = 1 + below(10);
            String ofPersons = lists(persons, houses);
            String ofHouses = lists(houses, persons);
            int places = below(4);
            all.add(() -> {
                StablepairBureau x = Check.bureau(ofPersons, ofHouses);
                for (int house = 0; house < houses; house++) {
                    x.places(house, 1 + (house * places) % 4);
                }
                return x;
            });
        }
        return all;
    }

    private static String lists(int many, int others) {
        StringBuilder all = new StringBuilder();
        for (int who = 0; who < many; who++) {
            List<Integer> left = new ArrayList<>();
            for (int other = 0; other < others; other++) {
                left.add(other);
            }
            StringBuilder list = new StringBuilder();
            for (int size = below(4) == 0 ? below(others + 1) : others; size > 0; size--) {
                list.append(list.length() == 0 ? "" : ">").append(left.remove(below(left.size())));
            }
            all.append(who == 0 ? "" : " ").append(list.length() == 0 ? "-" : list);
        }
        return all.toString();
    }

    private static boolean fewStable(StablepairBureau x) {
        return !(Twin.answer(x, StablepairBureau::stables) instanceof Class);
    }

    private static String ran(Twin.Maker market, char side) {
        StablepairBureau x = market.make();
        x.run(side);
        return Check.homes(x);
    }

    /** Offers made in another order: the highest number first, in turns, or as they are drawn. */
    private static StablepairBureau offered(Twin.Maker market, char side, int kind) {
        StablepairBureau x = market.make();
        x.begin(side);
        int many = x.many(side);
        int turn = 0;
        while (x.open() > 0) {
            if (kind == 0) {
                turn = many - 1;
            } else {
                turn = kind == 1 ? (turn + 1) % many : below(many);
            }
            while (Twin.answer(x, offerOf(turn)) instanceof Class) {
                turn = (turn + many - 1) % many;
            }
        }
        return x;
    }

    private static Twin.Use offerOf(int who) {
        return x -> x.offer(who);
    }

    private static void orders(List<Twin.Maker> markets) {
        Doc.terms("Offers of one side, made in any order, end in one and the same pairing, which is stable");
        for (Twin.Maker market : markets) {
            for (char side : new char[] {'p', 'h'}) {
                for (int kind = 0; kind < 4; kind++) {
                    StablepairBureau x = offered(market, side, kind);
                    Check.due("the same pairing", ran(market, side), Check.homes(x));
                    Check.due("stable", true, x.isStable());
                }
            }
        }
    }

    private static int place(StablepairBureau x, int person) {
        return x.rank('p', person, x.houseOf(person));
    }

    private static void bestAndWorst(List<Twin.Maker> markets) {
        Doc.terms("each one of that side has, place by place, the best that it has in any stable pairing, each one of the other "
                + "side the worst");
        for (Twin.Maker market : markets) {
            StablepairBureau best = market.make();
            StablepairBureau worst = market.make();
            StablepairBureau x = market.make();
            best.run('p');
            worst.run('h');
            for (int index = 0; fewStable(x) && index < x.stables(); index++) {
                x.stableAt(index);
                for (int person = 0; person < x.many('p'); person++) {
                    Check.due("no better one", true, place(best, person) <= place(x, person));
                    Check.due("no worse one", true, place(worst, person) >= place(x, person));
                }
                for (int house = 0; house < x.many('h'); house++) {
                    for (int at = 0; at < x.held(house); at++) {
                        int there = x.rank('h', house, x.heldAt(house, at));
                        Check.due("no worse one, at each place", true, best.rank('h', house, best.heldAt(house, at)) >= there);
                        Check.due("no better one, at each place", true,
                                worst.rank('h', house, worst.heldAt(house, at)) <= there);
                    }
                }
            }
        }
    }

    private static void filledAlike(List<Twin.Maker> markets) {
        Doc.terms("In all stable pairings the same persons are alone, each house holds as many, and one that is not full holds "
                + "the same ones");
        for (Twin.Maker market : markets) {
            StablepairBureau first = market.make();
            StablepairBureau x = market.make();
            first.run('p');
            for (int index = 0; fewStable(x) && index < x.stables(); index++) {
                x.stableAt(index);
                for (int person = 0; person < x.many('p'); person++) {
                    Check.due("alone", first.houseOf(person) == -1, x.houseOf(person) == -1);
                }
                for (int house = 0; house < x.many('h'); house++) {
                    Check.due("holds as many", first.held(house), x.held(house));
                    Check.due("filled", x.filled(house), x.held(house));
                    if (x.held(house) < placesOf(market, house)) {
                        Check.due("holds the same", Check.heldBy(first, house), Check.heldBy(x, house));
                    }
                }
            }
        }
    }

    private static int placesOf(Twin.Maker market, int house) {
        return market.make().places(house, 1);
    }

    private static List<int[]> stables(StablepairBureau x) {
        List<int[]> all = new ArrayList<>();
        for (int index = 0; index < x.stables(); index++) {
            x.stableAt(index);
            int[] homes = new int[x.many('p')];
            for (int person = 0; person < homes.length; person++) {
                homes[person] = x.houseOf(person);
            }
            all.add(homes);
        }
        return all;
    }

    private static String row(int[] homes) {
        StringBuilder row = new StringBuilder();
        for (int home : homes) {
            row.append(row.length() == 0 ? "" : " ").append(home);
        }
        return row.toString();
    }

    private static void lattice(List<Twin.Maker> markets) {
        Doc.terms("If in each of two stable pairings each person takes the house that is further ahead on its list of its both "
                + "ones, this is a stable pairing again, and each stable pairing is reached from that by the persons' offers "
                + "by turning rotations");
        for (Twin.Maker market : markets) {
            StablepairBureau x = market.make();
            if (!fewStable(x)) {
                continue;
            }
            List<int[]> all = stables(x);
            Set<String> rows = new HashSet<>();
            for (int[] homes : all) {
                rows.add(row(homes));
            }
            for (int[] homes : all) {
                for (int[] others : all) {
                    int[] ahead = homes.clone();
                    for (int person = 0; person < ahead.length; person++) {
                        boolean further = x.rank('p', person, others[person]) < x.rank('p', person, homes[person]);
                        ahead[person] = further ? others[person] : homes[person];
                    }
                    Check.due("stable again: " + row(ahead), true, rows.contains(row(ahead)));
                }
            }
            Check.due("reached by turning", rows, reached(x));
        }
    }

    private static Set<String> reached(StablepairBureau x) {
        x.run('p');
        Set<String> all = new HashSet<>(Set.of(Check.homes(x)));
        List<String> left = new ArrayList<>(all);
        while (!left.isEmpty()) {
            String from = left.remove(0);
            settle(x, from);
            for (int index = x.rotations() - 1; index >= 0; index--) {
                settle(x, from);
                x.turn(index);
                if (all.add(Check.homes(x))) {
                    left.add(Check.homes(x));
                }
            }
        }
        return all;
    }

    private static void settle(StablepairBureau x, String homes) {
        for (int person = 0; person < x.many('p'); person++) {
            x.part(person);
        }
        for (int person = 0; person < x.many('p'); person++) {
            int home = Integer.parseInt(homes.split(" ")[person]);
            if (home >= 0) {
                x.pair(person, home);
            }
        }
    }

    private static void lies(List<Twin.Maker> markets) {
        Doc.terms("As persons offer, no person gains by a false list, and a house of one place comes, by cutting its list off, to "
                + "the best that it has in any stable pairing");
        for (Twin.Maker market : markets) {
            StablepairBureau x = market.make();
            x.run('p');
            for (int person = 0; person < x.many('p') && x.many('h') > 0; person++) {
                int own = place(x, person);
                for (int kind = 0; kind < 20; kind++) {
                    x.erase();
                    Check.type(x, lists(1, x.many('h')).replace("-", ""));
                    int place = x.lie(person);
                    Check.due("no place ahead of its own", false, place >= 0 && (own < 0 ? place < 90 : place < own));
                }
            }
            for (int house = 0; house < x.many('h') && fewStable(x); house++) {
                if (placesOf(market, house) == 1) {
                    cuts(x, house);
                }
            }
        }
    }

    private static void cuts(StablepairBureau x, int house) {
        int best = -1;
        for (int index = 0; index < x.stables(); index++) {
            x.stableAt(index);
            int place = x.held(house) == 0 ? -1 : x.rank('h', house, x.heldAt(house, 0));
            best = best == -1 ? place : Math.min(best, place);
        }
        Check.due("the best of any stable one", best, x.gain(house));
    }

    private static void trade() {
        Doc.terms("The trade of houses ends in one way, each person having a house no further behind than its own one");
        for (int drawn = 0; drawn < 60; drawn++) {
            int many = 1 + below(10);
            StablepairBureau x = Check.bureau(lists(many, many), lists(many, many));
            Set<Integer> got = new HashSet<>();
            int latest = 0;
            for (int person = 0; person < many; person++) {
                int house = x.tradeOf(person);
                int own = x.rank('p', person, person);
                int place = x.rank('p', person, house);
                boolean fine = house == person || place >= 0 && (own < 0 || place < own);
                Check.due("no further behind", true, fine);
                Check.due("another one got it", true, got.add(house));
                latest = Math.max(latest, x.tradeRound(person));
            }
            Check.due("as many rings as rounds, or more", true, x.trade() >= latest);
            Check.due("as many rings as persons, or less", true, x.trade() <= many);
        }
    }

    private static void truth(List<Twin.Maker> markets) {
        Doc.says(53, "Checks the theorem: by offers of persons, always of the one with the highest number who can make one, the "
                + "pairing is that of run()");
        for (Twin.Maker market : markets) {
            Check.due("the same pairing", ran(market, 'p'), Check.homes(offered(market, 'p', 0)));
            Check.due("isTrue", true, market.make().isTrue());
        }
        Doc.says(53, "it, and that by the houses' offers, are stable");
        for (Twin.Maker market : markets) {
            for (char side : new char[] {'p', 'h'}) {
                StablepairBureau x = market.make();
                x.run(side);
                Check.due("stable", true, x.isStable());
            }
        }
        Doc.says(53, "the same persons are paired in both, each house holds as many in both, and, if it is not full, the same "
                + "ones");
        for (Twin.Maker market : markets) {
            alike(market, ranBy(market, 'p'), ranBy(market, 'h'));
        }
        Doc.says(53, "by the houses' offers no person has a house further ahead on its list, and no house a last one, by the "
                + "order of its list, further behind");
        for (Twin.Maker market : markets) {
            noBetter(ranBy(market, 'p'), ranBy(market, 'h'));
        }
        Doc.says(53, "and each rotation of the pairing by the persons' offers, turned, leads to a stable one");
        for (Twin.Maker market : markets) {
            turned(market);
        }
    }

    private static StablepairBureau ranBy(Twin.Maker market, char side) {
        StablepairBureau x = market.make();
        x.run(side);
        return x;
    }

    private static void alike(Twin.Maker market, StablepairBureau byPersons, StablepairBureau byHouses) {
        for (int person = 0; person < byPersons.many('p'); person++) {
            Check.due("paired", byPersons.houseOf(person) == -1, byHouses.houseOf(person) == -1);
        }
        for (int house = 0; house < byPersons.many('h'); house++) {
            Check.due("as many", byPersons.held(house), byHouses.held(house));
            if (byPersons.held(house) < placesOf(market, house)) {
                Check.due("the same ones", Check.heldBy(byPersons, house), Check.heldBy(byHouses, house));
            }
        }
    }

    private static void noBetter(StablepairBureau byPersons, StablepairBureau byHouses) {
        for (int person = 0; person < byPersons.many('p'); person++) {
            Check.due("not further ahead", true, place(byHouses, person) >= place(byPersons, person));
        }
        for (int house = 0; house < byPersons.many('h'); house++) {
            int last = byPersons.held(house) - 1;
            if (last >= 0) {
                int place = byPersons.rank('h', house, byPersons.heldAt(house, last));
                int other = byHouses.rank('h', house, byHouses.heldAt(house, last));
                Check.due("not further behind", true, other <= place);
            }
        }
    }

    private static void turned(Twin.Maker market) {
        StablepairBureau x = ranBy(market, 'p');
        int rotations = x.rotations();
        for (int index = 0; index < rotations; index++) {
            x.run('p');
            x.turn(index);
            Check.due("stable", true, x.isStable());
        }
        Check.due("as many from the first again", rotations, ranBy(market, 'p').rotations());
    }
}
