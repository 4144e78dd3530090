/** Two bureaus that have been used alike: a call on the one alone must not show, now or later. */
final class Twin {
    interface Maker {
        StablepairBureau make();
    }

    interface Use {
        Object on(StablepairBureau x);
    }

    private Twin() {
    }

    /** The call throws just that, and both go on alike. */
    static void refused(String what, Class<? extends RuntimeException> kind, Maker maker, Use use) {
        alike(what, kind, maker, use);
    }

    /** The call answers that, and both go on alike. */
    static void asked(String what, Object want, Maker maker, Use use) {
        alike(what, want, maker, use);
    }

    private static void alike(String what, Object want, Maker maker, Use use) {
        StablepairBureau x = maker.make();
        StablepairBureau untouched = maker.make();
        Check.due(what, want, answer(x, use));
        Check.due(what + " changes nothing", future(untouched), future(x));
    }

    /** What a call answers, or the class of what it throws. */
    static Object answer(StablepairBureau x, Use use) {
        try {
            return use.on(x);
        } catch (RuntimeException e) {
            return e.getClass();
        }
    }

    /** All that a bureau shows, and what it answers when the offers go on to their end and all is asked. */
    static String future(StablepairBureau x) {
        StringBuilder all = new StringBuilder(Check.shown(x));
        all.append("; blocks ").append(Check.blocking(x)).append(x.isStable());
        all.append("; rotations ").append(answer(x, StablepairBureau::rotations));
        goOn(x, all);
        all.append("; ").append(Check.offersMade(x));
        for (int house = 0; house < x.many('h'); house++) {
            all.append(" lacks ").append(x.lacks(house));
        }
        all.append("; rooms ").append(answer(x, StablepairBureau::rooms));
        all.append("; trade ").append(answer(x, StablepairBureau::trade));
        all.append("; helped ").append(x.helped(2)).append(' ').append(x.helped(3));
        all.append("; stables ").append(answer(x, StablepairBureau::stables));
        for (char side : new char[] {'p', 'h'}) {
            all.append("; run ").append(x.run(side)).append(": ").append(Check.homes(x));
        }
        return all.toString();
    }

    private static void goOn(StablepairBureau x, StringBuilder all) {
        for (int round = 0; round < 10; round++) {
            for (int who = 0; who < 10; who++) {
                int one = who;
                Object result = answer(x, y -> y.offer(one));
                all.append(result instanceof Character ? " " + who + result : ".");
            }
        }
    }

    /** One that has something of everything: pairs, offers on their way, a text, gifts, places, least numbers. */
    static StablepairBureau busy() {
        StablepairBureau x = Check.bureau("0>1>2 1>2>0 2>0>1 0>1>2", "3>1>2>0 2>0>1>3 0>1>2");
        for (int mate = 0; mate < 4; mate++) {
            x.add('m');
        }
        Check.read(x, 'm', 0, "1>2");
        Check.read(x, 'm', 1, "2>0");
        Check.read(x, 'm', 2, "0>1");
        x.places(1, 2);
        x.least(0, 1);
        x.least(1, 4);
        x.give(0, 1, true);
        x.give(1, 0, true);
        x.begin('p');
        x.offer(0);
        x.offer(3);
        x.offer(1);
        Check.type(x, "0>1");
        return x;
    }
}
