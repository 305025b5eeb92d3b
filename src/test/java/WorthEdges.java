/** Terms II and promises 13 to 16: slips, means, spreads, what comes, best hours and rounds at their edges. */
final class WorthEdges {
    private static final int NOTHING = -1000000000;

    private WorthEdges() {
    }

    static void runAll() {
        slips();
        keptAlone();
        means();
        spreads();
        spreadsOfTwelve();
        mindRoundedDown();
        halfOfTheSpread();
        sameHatAsItsPair();
        sharesRoundedDown();
        belowLeast();
        looksFromNoneToAll();
        looksBelowZero();
        onlyWhatComesIsLookedAt();
        pride();
        prideInItsHatAlone();
        bestOfLikeOnes();
        bestAtTheEnds();
        bestWithTheOthersAsTheyAre();
        byNumber();
        roundsCounted();
        roundsAtMost();
        sixtyRounds();
        worthArguments();
        worthsTogether();
        proof();
    }

    private static String sort(String name, int brings, int tires, int mind, int pride, int need) {
        return "sort " + name + " brings " + brings + " tires " + tires + " mind " + mind + " pride " + pride + " need " + need + ";";
    }

    private static String hat(int keeps, int least, int looks, String kind) {
        return "hat h keeps " + keeps + " least " + least + " looks " + looks + " " + kind + ";";
    }

    /** p, q, r .. of sort a, all in h. */
    private static String in(int people) {
        StringBuilder text = new StringBuilder();
        for (int p = 0; p < people; p++) {
            text.append("person p").append((char) ('a' + p)).append(" sort a;in p").append((char) ('a' + p)).append(" h;");
        }
        return text.toString();
    }

    private static WageHats works(String text, int... hours) {
        WageHats x = Texts.townOf(text);
        for (int p = 0; p < hours.length; p++) {
            x.put(p, hours[p]);
        }
        return x;
    }

    /** SLIP: floor(EARNED times (100 - keeps) / 100); KEPT what is left. */
    private static void slips() {
        WageHats x = Texts.townOf("hours 60;" + sort("a", 99, 0, 0, 0, 1) + hat(0, 0, 0, "even") + in(1));
        int[][] due = {{0, 0, 0}, {0, 1, 99}, {0, 60, 5940}, {1, 0, 0}, {1, 1, 98}, {1, 60, 5880}, {49, 1, 50}, {50, 1, 49}, {51, 1, 48}, {99, 0, 0},
            {99, 1, 0}, {99, 2, 1}, {99, 60, 59}, {100, 1, 0}, {100, 60, 0}};
        for (int[] row : due) {
            x.keep(0, row[0]);
            x.put(0, row[1]);
            String label = "keeps " + row[0] + " of " + 99 * row[1];
            Check.due(label + ": earned", x.person(0, 4), 99 * row[1]);
            Check.due(label + ": slip", x.person(0, 5), row[2]);
            Check.due(label + ": kept", x.person(0, 6), 99 * row[1] - row[2]);
            Check.due(label + ": sum", x.hat(0, 5), row[2]);
        }
    }

    /** Alone all is KEPT, there is no SLIP. */
    private static void keptAlone() {
        for (int keeps : new int[] {0, 50, 100}) {
            WageHats x = works("hours 60;" + sort("a", 99, 1, 100, 999, 1) + hat(keeps, 60, 100, "after") + in(2), 60, 60);
            x.move(0, -1);
            Check.due("alone: slip", x.person(0, 5), 0);
            Check.due("alone: kept", x.person(0, 6), 5940);
            Check.due("alone: worth, neither least nor pride counts", x.worth(0, 59), 584100 - 59 * 59);
            Check.due("alone: paid", x.run(1), 5940 + 5940);
            Check.due("alone: drawn", x.person(0, 7), 0);
        }
    }

    /** MEAN: floor(100 times SUM / n); 0 without PERSONS. */
    private static void means() {
        WageHats x = Texts.townOf(sort("a", 1, 0, 0, 0, 1) + hat(0, 0, 0, "after") + in(3));
        int[] due = {0, 33, 66, 100, 133};
        for (int sum = 0; sum < due.length; sum++) {
            x.put(0, sum);
            Check.due("mean of " + sum + " by three", x.hat(0, 6), due[sum]);
            Check.due("sum", x.hat(0, 5), sum);
        }
        x.move(2, -1);
        Check.due("mean of 4 by two", x.hat(0, 6), 200);
        x.move(1, -1);
        Check.due("mean of 4 by one", x.hat(0, 6), 400);
        x.move(0, -1);
        Check.due("mean of none", x.hat(0, 6), 0);
        Check.due("sum of none", x.hat(0, 5), 0);
    }

    /** SPREAD: floor(100 times all that n times a SLIP is apart from SUM / (n times n)); 0 without PERSONS. */
    private static void spreads() {
        WageHats x = Texts.townOf(sort("a", 1, 0, 0, 0, 1) + hat(0, 0, 0, "after") + in(3));
        int[][] due = {{0, 0, 0, 0}, {1, 1, 1, 0}, {1, 0, 0, 44}, {0, 1, 0, 44}, {0, 0, 1, 44}, {1, 1, 0, 44}, {2, 1, 0, 66}, {2, 0, 0, 88}, {3, 0, 0, 133}};
        for (int[] row : due) {
            for (int p = 0; p < 3; p++) {
                x.put(p, row[p]);
            }
            Check.due("spread of " + row[0] + " " + row[1] + " " + row[2], x.hat(0, 7), row[3]);
        }
        x.move(2, -1);
        Check.due("spread of 3 0", x.hat(0, 7), 150);
        x.move(1, -1);
        Check.due("spread of one", x.hat(0, 7), 0);
        x.move(0, -1);
        Check.due("spread of none", x.hat(0, 7), 0);
    }

    /** The widest: 12 times 5940 is 65340 apart from 5940, eleven are 5940 apart. */
    private static void spreadsOfTwelve() {
        WageHats x = Texts.townOf("hours 60;" + sort("a", 99, 0, 100, 0, 1) + hat(0, 0, 0, "after") + in(12));
        x.put(11, 60);
        Check.due("widest spread", x.hat(0, 7), 90750);
        Check.due("its mean", x.hat(0, 6), 49500);
        Check.due("what it is worth", x.worth(0, -1), 49500 - 90750);
        Check.due("to all", x.all(), 12 * (49500 - 90750));
        for (int p = 0; p < 12; p++) {
            x.put(p, 60);
        }
        Check.due("spread of like ones", x.hat(0, 7), 0);
        Check.due("most of all", x.all(), 12 * 594000);
    }

    private static int worthByMind(int mind, String more) {
        return works(sort("a", 1, 0, mind, 0, 1) + hat(0, 0, 0, "before") + in(2) + more, 1, 0).worth(0, -1);
    }

    /** Less floor(mind times SPREAD / 100): MEAN 50, SPREAD 50. */
    private static void mindRoundedDown() {
        int[][] due = {{0, 50}, {1, 50}, {2, 49}, {3, 49}, {4, 48}, {98, 1}, {99, 1}, {100, 0}};
        for (int[] row : due) {
            Check.due("mind " + row[0], worthByMind(row[0], ""), row[1]);
        }
    }

    /** Of half of SPREAD, rounded down, if its pair is in the same HAT: 25; 66 of 133. */
    private static void halfOfTheSpread() {
        int[][] due = {{0, 50}, {3, 50}, {4, 49}, {7, 49}, {8, 48}, {99, 26}, {100, 25}};
        for (int[] row : due) {
            Check.due("mind in a pair " + row[0], worthByMind(row[0], "pair pa pb;"), row[1]);
        }
        WageHats x = works(sort("a", 1, 0, 100, 0, 1) + hat(0, 0, 0, "after") + in(3) + "pair pc pa;", 3, 0, 0);
        Check.due("half of 133", x.worth(0, -1), 100 - 66);
        Check.due("the other one's half", x.worth(2, -1), 100 - 66);
        Check.due("all of 133", x.worth(1, -1), 100 - 133);
    }

    /** Its pair elsewhere, alone, or both alone: the whole SPREAD counts, or none. */
    private static void sameHatAsItsPair() {
        WageHats x = works(sort("a", 1, 0, 100, 0, 1) + hat(0, 0, 0, "after") + "hat g keeps 0 least 0 looks 0 after;" + in(3) + "pair pa pb;", 2, 1, 1);
        Check.due("in one hat: MEAN 133, SPREAD 44", x.worth(0, -1), 133 - 22);
        x.move(1, 1);
        Check.due("in another one: MEAN 150, SPREAD 50", x.worth(0, -1), 150 - 50);
        Check.due("would be in its pair's: 150, 25", x.would(0, 1), 150 - 25);
        x.move(1, -1);
        Check.due("its pair alone", x.worth(0, -1), 150 - 50);
        Check.due("its pair would come", x.would(1, 0), 133 - 22);
        x.move(0, -1);
        Check.due("both alone", x.worth(0, -1), 200);
        Check.due("in the hat without its pair", x.would(0, 0), 150 - 50);
    }

    /** share: floor(100 times SUM times need / all needs). */
    private static void sharesRoundedDown() {
        String text = sort("a", 1, 0, 0, 0, 1) + sort("b", 1, 0, 0, 0, 2) + hat(0, 0, 0, "share") + "person p sort a;person q sort b;in p h;in q h;";
        int[][] due = {{0, 0, 0}, {1, 33, 66}, {2, 66, 133}, {3, 100, 200}};
        for (int[] row : due) {
            WageHats x = works(text, row[0], 0);
            Check.due("third of " + row[0], x.worth(0, -1), row[1]);
            Check.due("two thirds of " + row[0], x.worth(1, -1), row[2]);
            x.move(1, -1);
            Check.due("all needs are its own", x.worth(0, -1), 100 * row[0]);
            x.move(1, 0);
            x.move(0, -1);
            Check.due("others' needs alone do not count", x.worth(1, -1), 0);
        }
    }

    /** If HOURS are below least: one less, as many, one more. */
    private static void belowLeast() {
        int[][] due = {{0, 0, 0}, {1, 0, 0}, {1, 1, 100}, {3, 2, 100}, {3, 3, 300}, {3, 4, 400}, {60, 59, 2950}, {60, 60, 6000}, {59, 59, 5900}};
        for (int[] row : due) {
            for (String kind : new String[] {"after", "before", "even", "share"}) {
                WageHats x = works("hours 60;" + sort("a", 1, 0, 100, 0, 7) + hat(0, row[0], 50, kind) + in(1), row[1]);
                Check.due(kind + " least " + row[0] + ", hours " + row[1], x.worth(0, -1), row[2]);
            }
        }
    }

    /** floor(it times (100 - looks) / 100): of 33, of 200. */
    private static void looksFromNoneToAll() {
        int[][] due = {{0, 33, 200}, {1, 32, 198}, {49, 16, 102}, {50, 16, 100}, {51, 16, 98}, {99, 0, 2}, {100, 0, 0}};
        for (int[] row : due) {
            String text = sort("a", 1, 0, 0, 0, 1) + hat(0, 9, row[0], "even");
            Check.due("looks " + row[0] + " of 33", works(text + in(3), 1, 0, 0).worth(0, -1), row[1]);
            Check.due("looks " + row[0] + " of 200", works(text + in(3), 6, 0, 0).worth(1, -1), row[2]);
        }
    }

    /** What comes may be below 0: MEAN 33, SPREAD 44 and all mind it. */
    private static void looksBelowZero() {
        int[][] due = {{0, -11}, {1, -11}, {9, -11}, {10, -10}, {50, -6}, {90, -2}, {91, -1}, {99, -1}, {100, 0}};
        for (int[] row : due) {
            WageHats x = works(sort("a", 1, 0, 100, 0, 1) + hat(0, 2, row[0], "after") + in(3), 1, 0, 0);
            Check.due("looks " + row[0] + " of 11 below 0", x.worth(1, -1), row[1]);
            Check.due("looks " + row[0] + " at one hour", x.worth(0, -1), row[1]);
        }
    }

    /** Neither KEPT nor tires nor pride is looked at. */
    private static void onlyWhatComesIsLookedAt() {
        WageHats x = works(sort("a", 10, 3, 0, 7, 1) + hat(40, 5, 100, "even") + in(2), 4, 6);
        Check.due("kept 16, tired by 48, two hours of pride", x.worth(0, -1), 1600 - 48 - 14);
        Check.due("the other one has its mean", x.worth(1, -1), 2400 - 108 + 3000);
    }

    /** Less pride for each hour by which the most HOURS of another one are above its own. */
    private static void pride() {
        String text = sort("a", 1, 0, 0, 10, 1) + hat(100, 0, 0, "even") + in(3);
        int[][] due = {{3, 0, 0, 300}, {3, 2, 0, 300}, {3, 3, 3, 300}, {3, 4, 0, 290}, {3, 4, 4, 290}, {3, 5, 4, 280}, {3, 4, 5, 280}, {0, 40, 0, -400}, {0, 0, 1, -10},
            {40, 39, 39, 4000}};
        for (int[] row : due) {
            Check.due("pride of " + row[0] + " beside " + row[1] + " " + row[2], works(text, row[0], row[1], row[2]).worth(0, -1), row[3]);
        }
        Check.due("the most pride", works("hours 60;" + sort("a", 0, 0, 0, 999, 1) + hat(0, 0, 0, "even") + in(2), 0, 60).worth(0, -1), -59940);
    }

    /** Others of another HAT, or alone, do not count; alone there is no pride; its own most is not another's. */
    private static void prideInItsHatAlone() {
        WageHats x = works(sort("a", 1, 0, 0, 10, 1) + hat(100, 0, 0, "even") + "hat g keeps 100 least 0 looks 0 even;" + in(3), 3, 9, 8);
        Check.due("beside both", x.worth(0, -1), 300 - 60);
        x.move(1, 1);
        Check.due("one in another hat", x.worth(0, -1), 300 - 50);
        Check.due("where it would be", x.would(0, 1), 300 - 60);
        x.move(2, -1);
        Check.due("one alone", x.worth(0, -1), 300);
        Check.due("its other hours are not another's", x.worth(0, 1), 100);
        x.move(0, -1);
        Check.due("alone", x.worth(0, 0), 0);
    }

    /** BEST HOURS: the least of like ones. */
    private static void bestOfLikeOnes() {
        int[][] due = {{0, 0, 0}, {10, 40, 12}, {10, 50, 10}, {1, 20, 2}, {1, 34, 1}, {1, 33, 2}, {1, 99, 1}, {3, 60, 2}, {99, 99, 40}, {0, 99, 0}};
        for (int[] row : due) {
            WageHats x = Texts.townOf(sort("a", row[0], row[1], 0, 0, 1) + hat(100, 0, 0, "even") + in(1));
            Check.due("best of brings " + row[0] + " tires " + row[1], x.person(0, 9), row[2]);
            x.move(0, -1);
            Check.due("best alone", x.person(0, 9), row[2]);
        }
    }

    /** 0 .. the most one may work. */
    private static void bestAtTheEnds() {
        for (int most : new int[] {0, 1, 39, 40, 59, 60}) {
            WageHats x = Texts.townOf("hours " + most + ";" + sort("a", 99, 0, 0, 0, 1) + hat(0, 0, 0, "even") + in(1));
            Check.due("best of " + most, x.person(0, 9), most);
            x.put(0, most);
            Check.due("best of " + most + " again", x.person(0, 9), most);
            Check.due("at its best", x.proof(), 0);
        }
        WageHats x = works("hours 60;" + sort("a", 0, 1, 0, 0, 1) + hat(0, 0, 0, "even") + in(1), 60);
        Check.due("none is best", x.person(0, 9), 0);
        Check.due("at worst", x.proof(), 3600);
    }

    /** All else as it is: beside 7 hours pride asks for 7, beside 8 for 8; least asks for its own. */
    private static void bestWithTheOthersAsTheyAre() {
        WageHats x = works(sort("a", 0, 1, 0, 99, 1) + hat(0, 0, 0, "even") + in(2), 0, 7);
        Check.due("beside 7", x.person(0, 9), 7);
        Check.due("beside 0", x.person(1, 9), 0);
        x.put(1, 8);
        Check.due("beside 8", x.person(0, 9), 8);
        x = Texts.townOf(sort("a", 1, 20, 0, 0, 1) + hat(0, 4, 100, "even") + in(1));
        Check.due("of least 4: 400 - 320", x.person(0, 9), 4);
        x = Texts.townOf(sort("a", 1, 20, 0, 0, 1) + hat(0, 5, 100, "even") + in(1));
        Check.due("of least 5: 500 - 500 is no more than 0", x.person(0, 9), 0);
    }

    /** A ROUND: each PERSON, by number, takes them: who comes later sees what those ahead took. */
    private static void byNumber() {
        String sorts = "hours 10;" + sort("a", 10, 1, 0, 0, 1) + sort("b", 0, 1, 0, 99, 1) + hat(100, 0, 0, "even");
        WageHats x = Texts.townOf(sorts + "person p sort a;person q sort b;in p h;in q h;");
        Check.due("p works, q is proud", x.rest(1), -2);
        Check.due("p at once", x.person(0, 2), 10);
        Check.due("q at once too", x.person(1, 2), 10);
        Check.due("then it rests", x.rest(1), 1);
        x = Texts.townOf(sorts + "person q sort b;person p sort a;in p h;in q h;");
        Check.due("q is proud, p works", x.rest(1), -2);
        Check.due("q not yet", x.person(0, 2), 0);
        Check.due("p at once", x.person(1, 2), 10);
        Check.due("q in the second", x.rest(1), -2);
        Check.due("q now", x.person(0, 2), 10);
        Check.due("then it rests too", x.rest(60), 1);
    }

    /** It RESTS with a ROUND that changes nothing, that one counted; -2 when it does not within n. */
    private static void roundsCounted() {
        String sorts = "hours 10;" + sort("a", 10, 1, 0, 0, 1) + sort("b", 0, 1, 0, 99, 1) + hat(100, 0, 0, "even");
        String text = sorts + "person q sort b;person p sort a;in p h;in q h;";
        int[] due = {-2, -2, 3, 3, 3};
        for (int n = 1; n <= 5; n++) {
            Check.due("within " + n, Texts.townOf(text).rest(n), due[n - 1]);
        }
        Check.due("within 60", Texts.townOf(text).rest(60), 3);
        WageHats x = works(text, 10, 10);
        Check.due("at rest, within 1", x.rest(1), 1);
        Check.due("at rest, within 60", x.rest(60), 1);
        Check.due("one changes", x.put(0, 9), 10);
        Check.due("one round, one that changes nothing", x.rest(2), 2);
    }

    /** n at most (1 .. 60); HOURS are as n ROUNDS leave them. */
    private static void roundsAtMost() {
        for (int n = 1; n <= 60; n++) {
            WageHats x = works(WorthTest.RING, 8, 8);
            Check.due("never within " + n, x.rest(n), -2);
            Check.due("hours behind " + n, x.person(0, 2), n % 2 == 0 ? 8 : 7);
        }
        WageHats x = works(WorthTest.RING, 8, 8);
        for (int n : new int[] {0, 61, -1, 62, Integer.MIN_VALUE, Integer.MAX_VALUE}) {
            Check.due("rest " + n, x.rest(n), -1);
            Check.due("hours stay", x.person(0, 2) * 10 + x.person(1, 2), 88);
        }
    }

    /** Out of idleness p takes as many hours as q has, q then one more: behind n rounds n - 1 and n, till the most. */
    static String ladder(int most, int least) {
        return "hours " + most + ";" + sort("a", 35, 1, 100, 612, 1) + sort("b", 34, 23, 97, 0, 1) + hat(0, least, 0, "after")
                + "person p sort a;person q sort b;in p h;in q h;";
    }

    /** The most is reached by both in one round more, and one more changes nothing. */
    private static void sixtyRounds() {
        for (int n = 1; n <= 60; n++) {
            WageHats x = Texts.townOf(ladder(60, 0));
            Check.due("a ladder of " + n, x.rest(n), -2);
            Check.due("p behind " + n, x.person(0, 2), n - 1);
            Check.due("q behind " + n, x.person(1, 2), n);
        }
        int[][] due = {{3, 5}, {56, 58}, {57, 59}, {58, 60}, {59, -2}, {60, -2}};
        for (int[] row : due) {
            Check.due("a ladder to " + row[0], Texts.townOf(ladder(row[0], 0)).rest(60), row[1]);
        }
        Check.due("not within 59", Texts.townOf(ladder(58, 0)).rest(59), -2);
        WageHats x = Texts.townOf(ladder(59, 0));
        x.rest(60);
        Check.due("the 61st changes nothing", x.rest(60), 1);
    }

    /** With these HOURS (NONE: as they are); NOTHING when something can't be. */
    private static void worthArguments() {
        WageHats x = works("hours 9;" + sort("a", 2, 1, 0, 0, 1) + hat(0, 0, 0, "even") + in(1), 4);
        int[][] due = {{-2, NOTHING}, {-1, 784}, {0, 0}, {1, 199}, {4, 784}, {8, 1536}, {9, 1719}, {10, NOTHING}, {60, NOTHING}};
        for (int[] row : due) {
            Check.due("worth of " + row[0], x.worth(0, row[0]), row[1]);
        }
        Check.due("worth to -1", x.worth(-1, 4), NOTHING);
        Check.due("worth to 1", x.worth(1, 4), NOTHING);
        Check.due("hours stay", x.person(0, 2), 4);
        x = Texts.townOf("hours 0;" + sort("a", 2, 1, 0, 0, 1) + "person p sort a;");
        Check.due("worth of none", x.worth(0, 0), 0);
        Check.due("worth of one where none may", x.worth(0, 1), NOTHING);
    }

    /** All WORTHS together, those alone too, those below 0 too. */
    private static void worthsTogether() {
        WageHats x = works("hours 9;" + sort("a", 2, 99, 0, 0, 1) + hat(0, 0, 0, "even") + in(3), 1, 2, 9);
        x.move(2, -1);
        Check.due("all", x.all(), 300 - 99 + 300 - 396 + 1800 - 8019);
        Check.due("of none", new WageHats().all(), 0);
    }

    /** BEST HOURS' less that of now, of all PERSONS the most; 0 without PERSONS. */
    private static void proof() {
        String text = "hours 10;" + sort("a", 10, 50, 0, 0, 1) + "person p sort a;person q sort a;person r sort a;";
        int[][] due = {{10, 10, 10, 0}, {9, 10, 10, 50}, {10, 9, 10, 50}, {10, 10, 9, 50}, {9, 8, 9, 200}, {8, 9, 10, 200}, {9, 9, 8, 200}, {0, 10, 10, 5000}};
        for (int[] row : due) {
            Check.due("proof of " + row[0] + " " + row[1] + " " + row[2], works(text, row[0], row[1], row[2]).proof(), row[3]);
        }
        Check.due("without persons", new WageHats().proof(), 0);
        Check.due("without persons, with hats", Texts.townOf(hat(0, 0, 0, "even")).proof(), 0);
    }
}
