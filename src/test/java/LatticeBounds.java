/** The boundaries of the term "Rotations" and of promises 31 to 37: rotations to fairest. */
final class LatticeBounds extends Bounds {
    private static final String UNSTABLE = "Throws `IllegalStateException` if the pairing is not stable";
    private static final String NO_ROTATION = "Throws `IndexOutOfBoundsException` if there is no such rotation";
    private static final String TOO_MANY = "Throws `UnsupportedOperationException` if there are more than 60";

    private LatticeBounds() {
    }

    static void all() {
        nextHouses();
        nextPersons();
        rings();
        turning();
        rotations();
        lengths();
        members();
        turns();
        stables();
        stableAt();
        fairest();
        kinds();
    }

    private static StablepairBureau run(String persons, String houses) {
        StablepairBureau x = Check.bureau(persons, houses);
        x.run('p');
        return x;
    }

    private static String rotation(StablepairBureau x, int index) {
        StringBuilder row = new StringBuilder();
        for (int place = 0; place < x.rotationLength(index); place++) {
            row.append(place == 0 ? "" : " ").append(x.rotationAt(index, place));
        }
        return row.toString();
    }

    private static String rotationsOf(StablepairBureau x) {
        StringBuilder all = new StringBuilder();
        for (int index = 0; index < x.rotations(); index++) {
            all.append(index == 0 ? "" : ", ").append(rotation(x, index));
        }
        return all.toString();
    }

    private static void nextHouses() {
        Doc.terms("The next house of a person who is paired is the first one behind its own on its list that would hold it: "
                + "that has this person on its list, and is not full, or holds one that is behind this person on its list");
        Check.due("the one right behind", "0 1", rotationsOf(run("0>1 1>0", "1>0 0>1")));
        Check.due("not one ahead of its own", "", rotationsOf(run("0>1 0>1", "1>0 0>1")));
        Check.due("behind one that does not list it", "0 1", rotationsOf(run("0>2>1 1>0", "1>0 0>1 -")));
        Check.due("behind one whom all those held are ahead at", "0 1", rotationsOf(run("0>2>1 1>0 2", "1>0 0>1 2>0")));
        Check.due("not behind one that holds one behind it", "", rotationsOf(run("0>2>1 1>0 2", "1>0 0>1 0>2")));
        Check.due("not behind one that is not full", "", rotationsOf(run("0>2>1 1>0", "1>0 0>1 0")));
        Check.due("the person behind its own last one", "0 1", rotationsOf(run("0>1 1>0 0>1", "1>0>2 0>1>2")));
        Check.due("not of one who is alone", "", rotationsOf(run("0>1 0", "0>1 -")));
        Doc.terms("if that house is not full, or there is none, the person has no next house");
        Check.due("none, its own is the last one", "", rotationsOf(run("0 1", "0 1")));
        Check.due("none that would hold it", "", rotationsOf(run("0>1 1", "0 1>0")));
        Check.due("not full, empty", "", rotationsOf(run("0>1", "0 0")));
        for (int places = 1; places <= 3; places++) {
            // Two persons of the house 1 would change with the one of the house 0, were there no place left.
            StablepairBureau x = Check.bureau("0>1 1>0 1>0", "1>2>0 0>1>2");
            x.places(1, places);
            x.run('p');
            String due = places == 1 ? "" : places == 2 ? "0 2" : "";
            Check.due("a house of places " + places, due, rotationsOf(x));
        }
    }

    private static void nextPersons() {
        Doc.terms("The next person is the last one, by its list, that the next house holds");
        StablepairBureau x = Check.bureau("0>1 0>1 1>0", "2>0>1 1>0>2");
        x.places(0, 2);
        x.run('p');
        Check.due("the last one has the higher number", "1 2", rotationsOf(x));
        StablepairBureau y = Check.bureau("0>1 0>1 1>0", "2>1>0 1>0>2");
        y.places(0, 2);
        y.run('p');
        Check.due("the last one has the lower number", "0 2", rotationsOf(y));
        StablepairBureau z = Check.bureau("0>1 0>1 0 0 1>0", "4>3>1>0>2 0>1>4");
        z.places(0, 4);
        z.run('p');
        Check.due("the last one of four does not go on", "", rotationsOf(z));
        Check.due("it is", 2, z.heldAt(0, 3));
    }

    private static void rings() {
        Doc.terms("A rotation is a ring of persons, each one's next person being the one behind it");
        Check.due("of two", "0 1", rotationsOf(run("0>1 1>0", "1>0 0>1")));
        Check.due("of three", "0 1 2", rotationsOf(run("0>1 1>2 2>0", "2>0 0>1 1>2")));
        Check.due("of three, the other way", "0 2 1", rotationsOf(run("0>2 1>0 2>1", "1>0 2>1 0>2")));
        for (int many = 2; many <= 10; many++) {
            StablepairBureau x = Markets.round(many);
            x.run('p');
            Check.due("of all", many, x.rotationLength(0));
            Check.due("one", 1, x.rotations());
        }
        Check.due("one who leads into it is not in it", "0 1", rotationsOf(run("0>1 1>0 2>0", "2>1>0 0>1 2")));
        Check.due("nor one with a lower number", "1 2", rotationsOf(run("0>1 1>2 2>1", "0 0>2>1 1>2")));
        Check.due("of nobody", "", rotationsOf(new StablepairBureau()));
        Check.due("of one, it could only change with itself", "", rotationsOf(run("0", "0")));
    }

    private static void turning() {
        Doc.terms("To turn it pairs each one of it with its next house");
        StablepairBureau x = run("0>1 1>2 2>0 3>4 4>3 5", "2>0 0>1 1>2 4>3 3>4 5");
        x.turn(0);
        Check.due("those of the first ring", "1 2 0 3 4 5", Check.homes(x));
        x.turn(0);
        Check.due("those of the one that is left", "1 2 0 4 3 5", Check.homes(x));
        Check.due("stable", true, x.isStable());
        StablepairBureau y = run("0>2>1 1>0", "1>0 0>1 -");
        y.turn(0);
        Check.due("over a house that would not hold it", "1 0", Check.homes(y));
        for (int many = 2; many <= 10; many++) {
            StablepairBureau z = Markets.round(many);
            z.run('p');
            for (int turned = 1; turned < many; turned++) {
                z.turn(0);
                for (int person = 0; person < many; person++) {
                    Check.due("house of " + person, (person + turned) % many, z.houseOf(person));
                }
            }
        }
    }

    /** Five rings of two each: more rotations there cannot be. */
    private static StablepairBureau fiveRings() {
        String[] two = Markets.TWO_OF_TWO;
        StablepairBureau x = Markets.beside(two, two, two, two, two);
        x.run('p');
        return x;
    }

    private static StablepairBureau ran(StablepairBureau x) {
        x.run('p');
        return x;
    }

    /** One pair alone blocks it: that of the last person and the last house. */
    private static StablepairBureau almostStable() {
        StablepairBureau x = Check.bureau("0>1 1>0 2", "1>0 0>1 2");
        x.run('p');
        x.part(2);
        return x;
    }

    private static void unstable(OfNumber use) {
        for (int index : new int[] {0, 1, -1, 10, Integer.MIN_VALUE, Integer.MAX_VALUE}) {
            Twin.refused("one pair blocks, " + index, STATE, LatticeBounds::almostStable, x -> use.on(x, index));
            Twin.refused("all are alone, " + index, STATE, Markets::three, x -> use.on(x, index));
            Twin.refused("offers are on their way, " + index, STATE, Twin::busy, x -> use.on(x, index));
        }
        StablepairBureau again = almostStable();
        again.pair(2, 2);
        Check.due("stable again", false, Twin.answer(again, x -> use.on(x, 0)) instanceof Class);
    }

    private static void rotations() {
        Doc.says(31, "Returns how many rotations the pairing has", "Returns how many");
        Check.due("of nobody", 0, new StablepairBureau().rotations());
        Check.due("all are alone, and stable", 0, of(10, 10, 10).rotations());
        String[] two = Markets.TWO_OF_TWO;
        Check.due("one", 1, ran(Markets.beside(two)).rotations());
        Check.due("two", 2, ran(Markets.beside(two, two)).rotations());
        Twin.asked("five", 5, LatticeBounds::fiveRings, StablepairBureau::rotations);
        StablepairBureau x = fiveRings();
        x.run('h');
        Check.due("none is left by the houses' offers", 0, x.rotations());
        Doc.says(31, "Throws `IllegalStateException` if it is not stable");
        unstable((y, index) -> y.rotations());
    }

    private static void lengths() {
        Doc.says(32, "Returns how many persons are in a rotation", "Returns how many",
                "`index`: rotations are numbered from 0, by their lowest persons");
        StablepairBureau x = run("0>2 1>4 2>3 3>0 4>1 5", "3>0 4>1 0>2 2>3 1>4 5");
        Check.quiet("the one with the lowest person", 3, x, () -> x.rotationLength(0));
        Check.quiet("the other one", 2, x, () -> x.rotationLength(1));
        StablepairBureau y = run("0>1 1>0 2>5 4>3 3>4 5>2", "1>0 0>1 5>2 3>4 4>3 2>5");
        Check.due("by their lowest persons, not by those behind them", "0 1, 2 5, 3 4", rotationsOf(y));
        StablepairBureau z = Markets.round(10);
        z.run('p');
        Check.due("the most", 10, z.rotationLength(0));
        Doc.says(32, UNSTABLE);
        unstable(StablepairBureau::rotationLength);
        Doc.says(32, NO_ROTATION);
        numbered(StablepairBureau::rotationLength);
    }

    /** The numbers of rotations: of none, one, two and five. */
    private static void numbered(OfNumber use) {
        String[] two = Markets.TWO_OF_TWO;
        indices("rotation of nobody", INDEX, StablepairBureau::new, 0, use);
        indices("rotation of none", INDEX, Bounds::paired, 0, use);
        indices("rotation of one", INDEX, () -> ran(Markets.three()), 1, use);
        indices("rotation of two", INDEX, () -> ran(Markets.beside(two, two)), 2, use);
        indices("rotation of five", INDEX, LatticeBounds::fiveRings, 5, use);
    }

    private static void members() {
        Doc.says(33, "Returns a person of a rotation", "Returns the person", "`index`: the number of the rotation",
                "`place`: from 0, the lowest person, then the one that is next to it, and so on");
        StablepairBureau x = run("0>2 1>4 2>3 3>0 4>1 5", "3>0 4>1 0>2 2>3 1>4 5");
        int[][] all = {{0, 2, 3}, {1, 4}};
        for (int index = 0; index < all.length; index++) {
            for (int place = 0; place < all[index].length; place++) {
                int one = index;
                int at = place;
                Check.quiet("place " + place + " of " + index, all[index][place], x, () -> x.rotationAt(one, at));
            }
        }
        Doc.says(33, UNSTABLE);
        unstable((y, index) -> y.rotationAt(index, 0));
        Twin.refused("and no such place", STATE, LatticeBounds::almostStable, y -> y.rotationAt(0, 99));
        Doc.says(33, "Throws `IndexOutOfBoundsException` if there is no such rotation or place");
        numbered((y, index) -> y.rotationAt(index, 0));
        for (int many : new int[] {2, 3, 10}) {
            indices("place of " + many, INDEX, () -> ran(Markets.round(many)), many, (y, at) -> y.rotationAt(0, at));
        }
        Twin.Maker both = () -> run("0>2 1>4 2>3 3>0 4>1 5", "3>0 4>1 0>2 2>3 1>4 5");
        indices("place of the first", INDEX, both, 3, (y, at) -> y.rotationAt(0, at));
        indices("place of the second", INDEX, both, 2, (y, at) -> y.rotationAt(1, at));
        indices("place of a third", INDEX, both, 0, (y, at) -> y.rotationAt(2, at));
    }

    private static void turns() {
        Doc.says(34, "Turns a rotation", "Returns how many rotations the pairing has then", "`index`: its number");
        StablepairBureau x = fiveRings();
        for (int left = 4; left >= 0; left--) {
            Check.due("turn the last one", left, x.turn(left));
            Check.due("as many are left", left, x.rotations());
        }
        Check.due("all turned", "1 0 3 2 5 4 7 6 9 8", Check.homes(x));
        StablepairBureau y = Markets.three();
        y.run('p');
        Check.due("a new one comes", 1, y.turn(0));
        Check.due("none is left", 0, y.turn(0));
        Doc.says(34, "no offers have begun then");
        endsOffers("turn", LatticeBounds::fiveRings, z -> z.turn(4));
        Doc.says(34, UNSTABLE);
        unstable(StablepairBureau::turn);
        Doc.says(34, NO_ROTATION);
        numbered(StablepairBureau::turn);
    }

    private static void stables() {
        Doc.says(35, "Returns how many stable pairings there are", "Returns how many");
        Check.due("of nobody", 1, new StablepairBureau().stables());
        Check.due("all are alone", 1, of(10, 10, 10).stables());
        for (int many = 1; many <= 10; many++) {
            Check.due("so many", many, Markets.round(many).stables());
        }
        StablepairBureau changed = Markets.round(10);
        changed.stables();
        changed.cut('h', 0, 9);
        Check.due("nine, once the persons' best one is cut off", 9, changed.stables());
        changed.cut('h', 0, 1);
        Check.due("one, once all but the houses' best one are cut off", 1, changed.stables());
        changed.cut('h', 0, 0);
        Check.due("one, once a house has no list", 1, changed.stables());
        for (int many = 59; many <= 60; many++) {
            int stables = many;
            Twin.asked("so many", many, () -> Markets.ofEight(stables), StablepairBureau::stables);
            Twin.asked("whatever the pairing is", many, () -> ran(Markets.ofEight(stables)), StablepairBureau::stables);
        }
        Doc.says(35, TOO_MANY);
        Twin.refused("sixty-one", CANNOT, () -> ran(Markets.ofEight(61)), StablepairBureau::stables);
        Twin.refused("a hundred", CANNOT, LatticeBounds::hundred, StablepairBureau::stables);
    }

    private static StablepairBureau hundred() {
        StablepairBureau x = Markets.beside(Markets.TEN_OF_FOUR, Markets.TEN_OF_FOUR);
        x.run('h');
        return x;
    }

    private static void stableAt() {
        Doc.says(36, "Makes one of the stable pairings the pairing", "Returns how many persons are paired",
                "`index`: they are numbered from 0, by the house of the person 0, then that of the person 1, and so on, -1 "
                + "ahead of all");
        for (int stables = 59; stables <= 60; stables++) {
            StablepairBureau x = Markets.ofEight(stables);
            String before = "";
            for (int index = 0; index < stables; index++) {
                Check.due("paired", 8, x.stableAt(index));
                Check.due("stable", true, x.isStable());
                Check.due("behind the one before", true, before.compareTo(Check.homes(x)) < 0);
                before = Check.homes(x);
            }
        }
        Check.due("nobody is paired", 0, new StablepairBureau().stableAt(0));
        Check.due("nobody of ten is paired", 0, of(10, 10, 10).stableAt(0));
        StablepairBureau y = Check.bureau("- 1 2>1", "- 1>2 2");
        Check.due("two of three", 2, y.stableAt(0));
        Check.due("alone", "-1 1 2", Check.homes(y));
        Doc.says(36, "no offers have begun then");
        endsOffers("stableAt", Bounds::paired, x -> x.stableAt(0));
        endsOffers("stableAt", Twin::busy, x -> x.stableAt(0));
        Doc.says(36, TOO_MANY);
        for (int index : new int[] {0, 60, 61, -1, Integer.MIN_VALUE, Integer.MAX_VALUE}) {
            Twin.refused("of sixty-one, " + index, CANNOT, () -> ran(Markets.ofEight(61)), x -> x.stableAt(index));
            Twin.refused("of a hundred, " + index, CANNOT, LatticeBounds::hundred, x -> x.stableAt(index));
        }
        Doc.says(36, "Throws `IndexOutOfBoundsException` if there is no such one");
        indices("of nobody", INDEX, StablepairBureau::new, 1, StablepairBureau::stableAt);
        indices("of one", INDEX, Bounds::paired, 1, StablepairBureau::stableAt);
        indices("of three", INDEX, () -> ran(Markets.three()), 3, StablepairBureau::stableAt);
        indices("of fifty-nine", INDEX, () -> ran(Markets.ofEight(59)), 59, StablepairBureau::stableAt);
        indices("of sixty", INDEX, () -> ran(Markets.ofEight(60)), 60, StablepairBureau::stableAt);
    }

    private static void fairest() {
        Doc.says(37, "Makes the fairest stable pairing the pairing, of several the one of the lowest number");
        StablepairBureau x = Markets.three();
        Check.due("all sums are alike", 6, x.fairest('s'));
        Check.due("the lowest number of three", "0 1 2", Check.homes(x));
        StablepairBureau y = Check.bureau("1>0 0>1", "0>1 1>0");
        Check.due("two alike", 2, y.fairest('s'));
        Check.due("the lowest number, not the persons' best", "0 1", Check.homes(y));
        Check.due("two alike", 1, y.fairest('w'));
        Check.due("the lowest number, not the persons' best", "0 1", Check.homes(y));
        Doc.says(37, "`kind`: 's' by the least sum of the places at which those who are paired stand on each other's list, 'w' "
                + "by the least greatest one of these", "Returns that sum, or greatest one, 0 if none are paired");
        StablepairBureau z = Markets.round(10);
        Check.due("the sum", 90, z.fairest('s'));
        Check.due("the first", "0 1 2 3 4 5 6 7 8 9", Check.homes(z));
        Check.due("the greatest", 5, z.fairest('w'));
        Check.due("the lower of both in the midst", "4 5 6 7 8 9 0 1 2 3", Check.homes(z));
        Check.due("the last place of all counts", 9, far().fairest('w'));
        Check.due("both places count", 18, far().fairest('s'));
        for (char kind : new char[] {'s', 'w'}) {
            Check.due("of nobody", 0, new StablepairBureau().fairest(kind));
            Check.due("none are paired", 0, of(10, 10, 10).fairest(kind));
            Check.due("none are paired, though listed", 0, Check.bureau("0 -", "1").fairest(kind));
            Check.due("each one its first", 0, Check.bureau("0 1", "0 1").fairest(kind));
            Check.due("of sixty", false, Twin.answer(Markets.ofEight(60), w -> w.fairest(kind)) instanceof Class);
        }
    }

    /** One pair: each of both is the last one on the list of the other, whose nine others do not list it. */
    private static StablepairBureau far() {
        String nine = " - - - - - - - - -";
        return Check.bureau("9>8>7>6>5>4>3>2>1>0" + nine, "9>8>7>6>5>4>3>2>1>0" + nine);
    }

    private static void kinds() {
        Doc.says(37, "no offers have begun then");
        for (char kind : new char[] {'s', 'w'}) {
            endsOffers("fairest", Bounds::paired, x -> x.fairest(kind));
            endsOffers("fairest", Twin::busy, x -> x.fairest(kind));
        }
        Doc.says(37, "Throws `IllegalArgumentException` if there is no such kind");
        for (char kind : new char[] {'r', 't', 'v', 'x', 'S', 'W', 'p', 'm', 0, 's' + 256, 'w' + 256, 65535}) {
            Twin.refused("kind " + (int) kind, ARGUMENT, Twin::busy, x -> x.fairest(kind));
            Twin.refused("kind " + (int) kind + " of too many", ARGUMENT, LatticeBounds::hundred, x -> x.fairest(kind));
        }
        Doc.says(37, TOO_MANY);
        for (char kind : new char[] {'s', 'w'}) {
            Twin.refused("of sixty-one", CANNOT, () -> ran(Markets.ofEight(61)), x -> x.fairest(kind));
            Twin.refused("of a hundred", CANNOT, LatticeBounds::hundred, x -> x.fairest(kind));
        }
    }
}
