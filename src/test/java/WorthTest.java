/** Promises 13 to 16: what hours are worth, rounds and the proof. */
final class WorthTest {
    private WorthTest() {
    }

    static void runAll() {
        worthByKind();
        worthOfOtherHours();
        belowZero();
        wrongWorth();
        all();
        rest();
        restInARing();
        proof();
    }

    /** Three hours of p bring 30, slip 21; six of q bring 36, slip 25: sum 46, mean 2300, spread 200. */
    private static WageHats two(String kind, String more) {
        WageHats x = Texts.townOf("hours 10; sort a brings 10 tires 20 mind 50 pride 30 need 2;"
                + "sort b brings 6 tires 0 mind 100 pride 0 need 3; hat h keeps 30 least 4 looks 25 " + kind + ";"
                + "hat g keeps 0 least 0 looks 0 even; person p sort a; person q sort b; in p h; in q h;" + more);
        x.put(0, 3);
        x.put(1, 6);
        return x;
    }

    private static void worthByKind() {
        String[] kinds = {"after", "before", "even", "share"};
        int[] ofP = {2280, 2280, 2355, 2010};
        int[] ofQ = {3200, 3200, 3400, 3860};
        for (int k = 0; k < 4; k++) {
            WageHats x = two(kinds[k], "");
            Check.due(kinds[k] + " p", x.worth(0, -1), ofP[k]);
            Check.due(kinds[k] + " q", x.worth(1, -1), ofQ[k]);
            Check.due(kinds[k] + " p again", x.worth(0, 3), ofP[k]);
            Check.due(kinds[k] + " all", x.all(), ofP[k] + ofQ[k]);
        }
        WageHats x = two("after", "pair p q;");
        Check.due("pair: half the spread minds p", x.worth(0, -1), 2317);
        Check.due("pair: half the spread minds q", x.worth(1, -1), 3300);
        x = two("before", "pair p q;");
        x.move(1, 1);
        Check.due("pair in another hat: p", x.worth(0, -1), 720 + 2100 * 75 / 100);
        Check.due("pair in another hat: q", x.worth(1, -1), 3600);
        x.move(1, -1);
        Check.due("alone: all is kept", x.worth(1, -1), 3600);
        x.move(0, -1);
        Check.due("both alone, no hat for them", x.worth(0, -1), 3000 - 180);
        oddSpread();
    }

    /** Slips 2, 1, 0 of three: spread floor(100 * (3 + 0 + 3) / 9) is 66, of which a half is 33. */
    private static void oddSpread() {
        WageHats x = Texts.townOf("hours 9; sort a brings 1 tires 0 mind 100 pride 0 need 1; sort b brings 5 tires 0 mind 99 pride 0 need 1;"
                + "hat h keeps 0 least 0 looks 0 after; person p sort a; person q sort a; person r sort b;"
                + "in p h; in q h; in r h; pair p r;");
        x.put(0, 2);
        x.put(1, 1);
        Check.due("spread", x.hat(0, 7), 66);
        Check.due("half of it", x.worth(0, -1), 100 - 33);
        Check.due("all of it", x.worth(1, -1), 100 - 66);
        Check.due("floor(99 * 33 / 100)", x.worth(2, -1), 100 - 32);
        x.put(0, 1);
        x.put(1, 0);
        Check.due("spread of 1 0 0", x.hat(0, 7), 44);
        x.put(0, 3);
        Check.due("spread of 3 0 0", x.hat(0, 7), 133);
        Check.due("half of 133 rounded down", x.worth(0, -1), 100 - 66);
    }

    /** Four hours of p: 40, slip 28, kept 12; sum 53, mean 2650, spread 150; not below least. */
    private static void worthOfOtherHours() {
        WageHats x = two("after", "");
        Check.due("worth of 4", x.worth(0, 4), 1200 - 320 + 2575 - 60);
        Check.due("hours stay", x.person(0, 2), 3);
        Check.due("worth of 6, no pride", x.worth(0, 6), 1800 - 720 + 3350 - 50 * 850 / 100);
        Check.due("worth of 10, above", x.worth(0, 10), 3000 - 2000 + 4750 - 50 * 2250 / 100);
    }

    /** Mean 33, spread 44: what comes is 11 below 0, of which half is floored to 6. */
    private static void belowZero() {
        String text = "sort a brings 1 tires 0 mind 100 pride 0 need 1; hat h keeps 0 least 5 looks 50 after;"
                + "person p sort a; person q sort a; person r sort a; in p h; in q h; in r h;";
        WageHats x = Texts.townOf(text);
        x.put(0, 1);
        Check.due("p below 0", x.worth(0, -1), -6);
        Check.due("q below 0", x.worth(1, -1), -6);
        Check.due("all below 0", x.all(), -18);
        x = Texts.townOf(text.replace("looks 50", "looks 0"));
        x.put(0, 1);
        Check.due("looks of 0 take nothing", x.all(), -33);
        x = Texts.townOf(text.replace("looks 50", "looks 100"));
        x.put(0, 1);
        Check.due("looks of 100 take all", x.all(), 0);
        Check.due("least is not below least", x.worth(0, 5), 166 - 222);
    }

    private static void wrongWorth() {
        WageHats x = two("even", "");
        Check.due("worth 2 -1", x.worth(2, -1), -1000000000);
        Check.due("worth -1 -1", x.worth(-1, -1), -1000000000);
        Check.due("worth 0 -2", x.worth(0, -2), -1000000000);
        Check.due("worth 0 11", x.worth(0, 11), -1000000000);
        Check.due("worth 0 max", x.worth(0, Integer.MAX_VALUE), -1000000000);
        Check.due("worth 0 10", x.worth(0, 10) > 0, true);
        Check.due("worth 0 0, pride of 6 hours", x.worth(0, 0), 1250 * 75 / 100 - 180);
    }

    private static void all() {
        WageHats x = two("even", "person r sort a;");
        x.put(2, 10);
        Check.due("all, one alone", x.all(), 2355 + 3400 + 10000 - 2000);
        Check.due("all of none", new WageHats().all(), 0);
    }

    /** Even: 500 h - 99 h h is most for 3 hours. */
    private static void rest() {
        WageHats x = Texts.townOf("hours 10; sort a brings 10 tires 99 mind 0 pride 0 need 1;"
                + "hat h keeps 0 least 0 looks 0 even; person p sort a; person q sort a; in p h; in q h;");
        Check.due("rest 0", x.rest(0), -1);
        Check.due("rest 61", x.rest(61), -1);
        Check.due("rest -1", x.rest(-1), -1);
        Check.due("hours as they were", x.person(0, 2) + x.person(1, 2), 0);
        Check.due("rest 1", x.rest(1), -2);
        Check.due("one round was", x.person(0, 2), 3);
        Check.due("of both", x.person(1, 2), 3);
        Check.due("rest 1 again", x.rest(1), 1);
        x.put(1, 9);
        Check.due("rest 60", x.rest(60), 2);
        Check.due("it rests", x.rest(60), 1);
        Check.due("of none", new WageHats().rest(1), 1);
    }

    /** By turns both work 8 and 7 hours: q has pride, and what p's slip loses by floors draws it on. */
    static final String RING = "hours 8; sort a brings 11 tires 22 mind 57 pride 0 need 8;"
            + "sort b brings 1 tires 21 mind 100 pride 999 need 7; hat h keeps 16 least 9 looks 71 even;"
            + "person p sort a; person q sort b; in p h; in q h;";

    private static void restInARing() {
        WageHats x = Texts.townOf(RING);
        x.put(0, 8);
        x.put(1, 8);
        Check.due("it never rests", x.rest(60), -2);
        Check.due("sixty rounds are even", x.person(0, 2), 8);
        Check.due("seven rounds", x.rest(7), -2);
        Check.due("are odd", x.person(0, 2), 7);
        Check.due("of q too", x.person(1, 2), 7);
        Check.due("nor now", x.rest(60), -2);
        Check.due("sixty from there", x.person(0, 2), 7);
    }

    private static void proof() {
        WageHats x = Texts.townOf("hours 10; sort a brings 10 tires 50 mind 0 pride 0 need 1; sort b brings 9 tires 90 mind 0 pride 0 need 1;"
                + "person p sort a; person q sort b;");
        Check.due("p would have 5000 more", x.proof(), 5000);
        x.put(0, 9);
        Check.due("p 50, q would have 2250 more", x.proof(), 2250);
        x.rest(5);
        Check.due("at rest", x.proof(), 0);
        Check.due("of none", new WageHats().proof(), 0);
    }
}
