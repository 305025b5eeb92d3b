import java.util.ArrayList;
import java.util.Arrays;
import java.util.List;

/** Terms III and promises 31 to 38: weeks, draws, rules, what is lost, shared and paid, images at their edges. */
final class WeekEdges {
    private static final int MIN = Integer.MIN_VALUE;
    private static final int MAX = Integer.MAX_VALUE;
    private static final String THREE = "hours 10;sort a brings 3 tires 0 mind 0 pride 0 need 1;hat f keeps 10 least 0 looks 0 before;"
            + "person p sort a;person q sort a;person r sort a;in p f;in q f;in r f;";

    private WeekEdges() {
    }

    static void runAll() {
        seeds();
        draws();
        drawOfOne();
        beforeThenAfter();
        hatsByNumbers();
        hoursByRules();
        firstRuleThatHolds();
        signs();
        divided();
        millions();
        fromTheLeftOn();
        aloneFacts();
        mostOfAnother();
        drawnAtFirst();
        ownOfBefore();
        evenAndShare();
        lostBelowLeast();
        lostBelowLooks();
        drawsOfAHundred();
        pairsShare();
        paidAndDrawn();
        runArguments();
        lastWeeks();
        muchLost();
        drewOfNone();
        saidArguments();
        lessThanSaid();
        imageOfBytes();
        checkByte();
        octets();
        onEachByte();
        onHatsAndHours();
        onWeeks();
        onLengths();
        onRefused();
        onTaken();
    }

    private static String sort(String name, int brings) {
        return "sort " + name + " brings " + brings + " tires 0 mind 0 pride 0 need 1;";
    }

    private static WageHats works(String text, int... hours) {
        WageHats x = Texts.townOf(text);
        for (int p = 0; p < hours.length; p++) {
            x.put(p, hours[p]);
        }
        return x;
    }

    private static void due(String label, WageHats x, int what, int... each) {
        for (int p = 0; p < each.length; p++) {
            Check.due(label + ", person " + p + " " + what, what < 0 ? x.drew(p) : x.person(p, what), each[p]);
        }
    }

    // ---- draws

    /** The seed: true; false when it is below 0; 1 at first. */
    private static void seeds() {
        WageHats x = Texts.townOf(THREE);
        int[][] seeds = {{0, 1}, {1, 1}, {MAX, 1}, {MAX - 1, 1}, {-1, 0}, {MIN, 0}, {MIN + 1, 0}, {-2, 0}};
        for (int[] row : seeds) {
            Check.due("seed " + row[0], x.seed(row[0]), row[1] == 1);
        }
        WageHats first = Texts.townOf(THREE);
        WageHats one = Texts.townOf(THREE);
        WageHats refused = Texts.townOf(THREE);
        one.seed(1);
        refused.seed(-1);
        for (int week = 0; week < 8; week++) {
            first.run(1);
            one.run(1);
            refused.run(1);
            for (int p = 0; p < 3; p++) {
                Check.due("1 at first, week " + week, first.drew(p), one.drew(p));
                Check.due("-1 changes nothing, week " + week, refused.drew(p), one.drew(p));
            }
        }
    }

    /** x becomes (1103515245 x + 12345) mod 2 to the 31; floor(x / 64) mod m, of how many are left. */
    private static void draws() {
        for (long seed : new long[] {0, 1, 2, 63, 64, 65, 12345, 1073741823, 1073741824, 2147483646, 2147483647}) {
            WageHats x = Texts.townOf(THREE);
            x.seed((int) seed);
            long chance = seed;
            for (int week = 0; week < 12; week++) {
                List<Integer> left = new ArrayList<>(List.of(0, 1, 2));
                x.run(1);
                for (int p = 0; p < 3; p++) {
                    chance = (1103515245L * chance + 12345) % 2147483648L;
                    int whose = left.remove((int) (chance / 64 % left.size()));
                    Check.due("seed " + seed + ", week " + week + ", person " + p, x.drew(p), whose);
                }
            }
        }
    }

    /** The last slip left is drawn too; a lone one draws its own, and takes a DRAW for it. */
    private static void drawOfOne() {
        String text = "hours 9;" + sort("a", 1) + "hat f keeps 0 least 0 looks 0 before;hat g keeps 0 least 0 looks 0 before;"
                + "person p sort a;person q sort a;person r sort a;in q g;in r g;";
        WageHats alone = works(text, 5, 6, 7);
        WageHats one = works(text + "in p f;", 5, 6, 7);
        alone.seed(0);
        one.seed(0);
        alone.run(1);
        one.run(1);
        due("draws of 0: 12345 / 64 is even", alone, -1, -1, 1, 2);
        due("one draw further on it is odd", one, -1, 0, 2, 1);
        due("its own", one, 7, 5, 7, 6);
    }

    /** before HATS first, then after HATS likewise: by the seed 0 the first draw of two is 0, the second one 1. */
    private static void beforeThenAfter() {
        String text = sort("a", 3) + "hat f keeps 0 least 0 looks 0 #;hat g keeps 0 least 0 looks 0 $;"
                + "person p sort a;person q sort a;person r sort a;person s sort a;in p f;in q f;in r g;in s g;";
        String[][] kinds = {{"after", "before"}, {"before", "after"}, {"before", "before"}, {"after", "after"}};
        int[][] due = {{1, 0, 2, 3}, {0, 1, 3, 2}, {0, 1, 3, 2}, {0, 1, 3, 2}};
        for (int i = 0; i < kinds.length; i++) {
            WageHats x = Texts.townOf(text.replace("#", kinds[i][0]).replace("$", kinds[i][1]));
            x.seed(0);
            x.run(1);
            due(kinds[i][0] + " " + kinds[i][1], x, -1, due[i]);
        }
        WageHats x = Texts.townOf(text.replace("#", "even").replace("$", "share"));
        x.run(1);
        due("no slips", x, -1, -1, -1, -1, -1);
    }

    /** HATS by numbers, their PERSONS by number. */
    private static void hatsByNumbers() {
        String text = sort("a", 3) + "hat f keeps 0 least 0 looks 0 before;hat g keeps 0 least 0 looks 0 before;"
                + "person p sort a;person q sort a;person r sort a;person s sort a;person t sort a;in p g;in q f;in r g;in s f;in t g;";
        WageHats x = Texts.townOf(text);
        x.seed(2024);
        long chance = 2024;
        int[][] members = {{1, 3}, {0, 2, 4}};
        for (int week = 0; week < 10; week++) {
            x.run(1);
            for (int[] hat : members) {
                List<Integer> left = new ArrayList<>();
                for (int p : hat) {
                    left.add(p);
                }
                for (int p : hat) {
                    chance = (1103515245L * chance + 12345) % 2147483648L;
                    Check.due("week " + week + ", person " + p, x.drew(p), left.remove((int) (chance / 64 % left.size())));
                }
            }
        }
    }

    // ---- rules

    private static int hoursBy(int most, String sum, String test) {
        WageHats x = works("hours " + most + ";" + sort("a", 7) + sort("b", 9) + "hat h keeps 44 least 0 looks 0 even;person p sort a;"
                + "person q sort b;in p h;in q h;works a " + sum + " when " + test + ";", Math.min(most, 11), Math.min(most, 22));
        x.run(1);
        return x.person(0, 2);
    }

    /** 0 .. the most one may work: below is 0, above the most; without a RULE they stay. */
    private static void hoursByRules() {
        int[][] due = {{-1, 0}, {0, 0}, {1, 1}, {19, 19}, {20, 20}, {21, 20}, {9999, 20}, {-9999, 0}};
        for (int[] row : due) {
            Check.due("works " + row[0], hoursBy(20, row[0] < 0 ? "0 - " + -row[0] : "" + row[0], "all"), row[1]);
        }
        Check.due("none may work", hoursBy(0, "5", "all"), 0);
        Check.due("sixty may be worked", hoursBy(60, "60", "all"), 60);
        Check.due("no more", hoursBy(60, "61", "all"), 60);
        Check.due("without a rule that holds", hoursBy(20, "5", "not all"), 11);
        Check.due("without a rule of its sort", hoursBy(20, "5 when not all;works b 6", "all"), 11);
    }

    /** The first RULE of its SORT whose TEST holds. */
    private static void firstRuleThatHolds() {
        Check.due("the first", hoursBy(20, "1 when all;works a 2 when all;works a 3", "all"), 1);
        Check.due("the second", hoursBy(20, "1 when not all;works a 2 when all;works a 3", "all"), 2);
        Check.due("the last", hoursBy(20, "1 when not all;works a 2 when not all;works a 3", "all"), 3);
        Check.due("not of another sort", hoursBy(20, "1 when not all;works b 2 when all;works a 3", "all"), 3);
    }

    private static void holds(String test, boolean due) {
        Check.due(test, hoursBy(20, "5", test), due ? 5 : 11);
    }

    /** SIGN < or > or =: one below, alike, one above. */
    private static void signs() {
        for (int a = 1; a <= 3; a++) {
            holds(a + " < 2", a < 2);
            holds(a + " > 2", a > 2);
            holds(a + " = 2", a == 2);
            holds("not " + a + " < 2", a >= 2);
            holds("0 - " + a + " < 0 - 2", a > 2);
            holds("0 - " + a + " > 0 - 2", a < 2);
            holds("0 - " + a + " = 0 - 2", a == 2);
        }
        holds("min (1, 2) = 1 and min (2, 1) = 1 and min (1, 1) = 1", true);
        holds("max (1, 2) = 2 and max (2, 1) = 2 and max (2, 2) = 2", true);
        holds("min (0 - 1, 0) = 0 - 1 and max (0 - 1, 0) = 0", true);
    }

    /** / gives the greatest whole number not above, by 0 it gives 0. */
    private static void divided() {
        int[][] due = {{0, 3, 0}, {1, 3, 0}, {2, 3, 0}, {3, 3, 1}, {4, 3, 1}, {5, 3, 1}, {6, 3, 2}, {-1, 3, -1}, {-2, 3, -1}, {-3, 3, -1}, {-4, 3, -2}, {1, -3, -1}, {3, -3, -1},
            {4, -3, -2}, {-1, -3, 0}, {-3, -3, 1}, {-4, -3, 1}, {0, 0, 0}, {5, 0, 0}, {-5, 0, 0}, {9999, 1, 9999}, {9999, 9999, 1}, {9998, 9999, 0}, {-1, 9999, -1}};
        for (int[] row : due) {
            holds("(" + told(row[0]) + ") / (" + told(row[1]) + ") = " + told(row[2]), true);
        }
    }

    private static String told(int n) {
        return n < 0 ? "0 - " + -n : "" + n;
    }

    /** Each sum, difference, product above 10 to the 6 is that, below -10 to the 6 likewise. */
    private static void millions() {
        String most = "(1000 * 1000)";
        String least = "(0 - 1000 * 1000)";
        holds(most + " = 1000 * 999 + 1000", true);
        holds("999 * 1000 + 999 = " + most, false);
        holds("999 * 1000 + 999 + 1 = " + most, true);
        holds("999 * 1000 + 1000 + 1 = " + most, true);
        holds(most + " + 1 = " + most, true);
        holds(most + " + 1 - 1 = " + most, false);
        holds(most + " + 9999 - 1 = " + most + " - 1", true);
        holds(most + " + " + most + " = " + most, true);
        holds(most + " - (0 - 1) = " + most, true);
        holds("1001 * 1000 = " + most, true);
        holds("1001 * 999 = " + most, false);
        holds("9999 * 9999 = " + most, true);
        holds(most + " * " + most + " = " + most, true);
        holds(least + " - 1 = " + least, true);
        holds(least + " + 1 = " + least, false);
        holds(least + " - 1 + 1 = " + least, false);
        holds(least + " - 9999 + 1 = " + least + " + 1", true);
        holds(least + " + " + least + " = " + least, true);
        holds(least + " - " + most + " = " + least, true);
        holds("(0 - 1001) * 1000 = " + least, true);
        holds("(0 - 1001) * 999 = " + least, false);
        holds(least + " * " + most + " = " + least, true);
        holds(least + " * " + least + " = " + most, true);
        holds("0 - 999 * 1000 - 999 = " + least, false);
        holds("0 - 999 * 1000 - 1000 = " + least, true);
        holds("0 - 999 * 1000 - 1001 = " + least, true);
        holds(most + " / (0 - 1) = " + least, true);
        holds("min (" + most + ", " + least + ") = " + least, true);
    }

    /** All from the left on. */
    private static void fromTheLeftOn() {
        holds("10 - 3 - 2 = 5", true);
        holds("100 / 10 / 2 = 5", true);
        holds("2 * 7 / 4 = 3", true);
        holds("7 / 4 * 2 = 2", true);
        holds("2 + 3 * 4 = 14", true);
        holds("10 - 2 + 3 = 11", true);
        holds("all or all and not all", true);
        holds("[all or all] and not all", false);
        holds("not all and not all or all", true);
        holds("not all or all", true);
        holds("not [all or all]", false);
    }

    /** many is 1 alone, most 0, kept 100, own 0; in a HAT as it is. */
    private static void aloneFacts() {
        String text = "hours 60;" + sort("a", 7) + "hat h keeps # least 0 looks 0 even;person p sort a;person q sort a;person r sort a;in q h;in r h;works a $ when all;";
        String[] facts = {"many", "most + 1", "kept / 2", "own + 2", "brings", "week + 3", "last", "drawn + 4"};
        int[][] due = {{1, 2}, {1, 41}, {50, 22}, {2, 2}, {7, 7}, {3, 3}, {30, 20}, {4, 4}};
        for (int i = 0; i < facts.length; i++) {
            WageHats x = works(text.replace("#", "44").replace("$", facts[i]), 30, 20, 40);
            x.run(1);
            Check.due(facts[i] + " alone", x.person(0, 2), due[i][0]);
            Check.due(facts[i] + " in a hat", x.person(1, 2), due[i][1]);
        }
        for (int keeps : new int[] {0, 99, 100}) {
            WageHats x = works(text.replace("#", "" + keeps).replace("$", "kept - 90"), 1, 1, 1);
            x.run(1);
            due("kept of " + keeps, x, 2, 10, Math.max(0, keeps - 90), Math.max(0, keeps - 90));
        }
    }

    /** most: the most HOURS of another one in its HAT (0 without): not its own, not one's outside. */
    private static void mostOfAnother() {
        String text = "hours 60;" + sort("a", 7) + sort("b", 7) + "hat h keeps 0 least 0 looks 0 even;hat g keeps 0 least 0 looks 0 even;person p sort a;person q sort b;"
                + "person r sort b;person s sort b;in p h;in q h;in r h;in s g;works a most when all;";
        int[][] due = {{30, 20, 10, 59, 20}, {30, 10, 20, 59, 20}, {5, 20, 10, 59, 20}, {30, 0, 0, 59, 0}, {0, 60, 60, 59, 60}};
        for (int[] row : due) {
            WageHats x = works(text, row[0], row[1], row[2], row[3]);
            x.run(1);
            Check.due("most beside " + row[0], x.person(0, 2), row[4]);
        }
        WageHats x = works(text, 30, 20, 10, 59);
        x.move(1, -1);
        x.move(2, 1);
        x.run(1);
        Check.due("most without another one", x.person(0, 2), 0);
        x = Texts.townOf(text.replace("works a most", "works a most + 1"));
        x.move(1, -1);
        x.move(2, 1);
        x.run(1);
        Check.due("0 without another one", x.person(0, 2), 1);
    }

    /** drawn: DRAWN of the last WEEK (0 at first), of an image too. */
    private static void drawnAtFirst() {
        String text = "hours 60;" + sort("a", 1) + "hat h keeps 0 least 0 looks 0 even;person p sort a;in p h;works a drawn + 1 when all;";
        WageHats x = works(text, 40);
        int[] due = {1, 2, 3, 4};
        for (int hours : due) {
            x.run(1);
            Check.due("one more than was drawn", x.person(0, 2), hours);
        }
        Check.due("an image", ImageTest.takes(x, 1, 1, 5, 0, 20, 0, 7), true);
        x.run(1);
        Check.due("of an image", x.person(0, 2), 21);
        Check.due("an image of much", ImageTest.takes(x, 1, 1, 5, 255, 255, 0, 7), true);
        x.run(1);
        Check.due("of much", x.person(0, 2), 60);
    }

    /** own: 1, if it has its own SLIP of a before HAT, else 0: of an after, even or share HAT, alone, or another's slip. */
    private static void ownOfBefore() {
        String text = "hours 60;" + sort("a", 1) + "hat h keeps 0 least 0 looks 0 #;person p sort a;in p h;works a own * 5 + 1 when all;";
        String[] kinds = {"after", "before", "even", "share"};
        int[] due = {1, 6, 1, 1};
        for (int kind = 0; kind < 4; kind++) {
            WageHats x = Texts.townOf(text.replace("#", kinds[kind]));
            for (int week = 0; week < 3; week++) {
                x.run(1);
                Check.due("own of " + kinds[kind] + ", week " + week, x.person(0, 2), due[kind]);
            }
            x.move(0, -1);
            x.run(1);
            Check.due("own alone", x.person(0, 2), 1);
        }
        WageHats x = Texts.townOf(THREE + "works a own * 5 + 1 when all;");
        for (int week = 0; week < 20; week++) {
            x.run(1);
            for (int p = 0; p < 3; p++) {
                Check.due("own of three, week " + week, x.person(p, 2), x.drew(p) == p ? 6 : 1);
            }
        }
    }

    // ---- what is drawn, lost, shared, paid

    /** even: floor(SUM / n); share: floor(SUM times need / all needs); alone 0. */
    private static void evenAndShare() {
        String text = "hours 9;" + sort("a", 1) + "sort b brings 1 tires 0 mind 0 pride 0 need 2;hat h keeps 0 least 0 looks 0 #;person p sort a;person q sort b;"
                + "person r sort a;in p h;in q h;";
        int[][] even = {{0, 0, 0}, {1, 0, 0}, {2, 1, 1}, {3, 1, 1}, {4, 2, 2}};
        int[][] share = {{0, 0, 0}, {1, 0, 0}, {2, 0, 1}, {3, 1, 2}, {4, 1, 2}, {5, 1, 3}, {6, 2, 4}};
        for (int[] row : even) {
            WageHats x = works(text.replace("#", "even"), row[0], 0, 9);
            x.run(1);
            due("even " + row[0], x, 7, row[1], row[2], 0);
            due("even slips", x, -1, -1, -1, -1);
        }
        for (int[] row : share) {
            WageHats x = works(text.replace("#", "share"), row[0], 0, 9);
            x.run(1);
            due("share " + row[0], x, 7, row[1], row[2], 0);
            due("share slips", x, -1, -1, -1, -1);
        }
    }

    /** Whose HOURS are below least: one less, as many; by the HOURS of this WEEK. */
    private static void lostBelowLeast() {
        String text = "hours 60;" + sort("a", 2) + "hat h keeps 50 least # looks 100 even;person p sort a;in p h;";
        int[][] due = {{0, 0, 0}, {1, 0, 0}, {5, 4, 4}, {5, 5, 0}, {5, 6, 0}, {60, 59, 59}, {60, 60, 0}};
        for (int[] row : due) {
            WageHats x = works(text.replace("#", "" + row[0]), row[1]);
            x.run(1);
            Check.due("least " + row[0] + ", hours " + row[1] + ": lost", x.has(7), row[2]);
            Check.due("least " + row[0] + ", hours " + row[1] + ": drawn", x.person(0, 7), row[1] - row[2]);
            Check.due("least " + row[0] + ", hours " + row[1] + ": paid", x.person(0, 8), 2 * row[1] - row[2]);
        }
        WageHats x = works(text.replace("#", "5") + "works a 4 when week = 1;works a 5 when week = 2;", 5);
        int[] lost = {0, 4, 4};
        for (int week = 0; week < 3; week++) {
            x.run(1);
            Check.due("lost by the hours of week " + week, x.has(7), lost[week]);
        }
        x.move(0, -1);
        x.put(0, 1);
        x.run(1);
        Check.due("alone nothing is lost", x.has(7), 4);
    }

    /** A DRAW of 100; below looks, DRAWN is LOST: by the seed 1 it is 18, by 0 92. */
    private static void lostBelowLooks() {
        int[][] due = {{1, 0, 0}, {1, 17, 0}, {1, 18, 0}, {1, 19, 8}, {1, 100, 8}, {0, 92, 0}, {0, 93, 8}, {0, 99, 8}};
        for (int[] row : due) {
            WageHats x = works("hours 60;" + sort("a", 2) + "hat h keeps 0 least 5 looks " + row[1] + " even;person p sort a;in p h;", 4);
            x.seed(row[0]);
            x.run(1);
            Check.due("seed " + row[0] + ", looks " + row[1], x.has(7), row[2]);
        }
    }

    /** Each below least takes a DRAW, also with looks of 0; who works least takes none, nor who is alone. */
    private static void drawsOfAHundred() {
        String text = "hours 60;" + sort("a", 2) + "hat g keeps 0 least 5 looks 0 even;hat h keeps 0 least 5 looks 93 even;"
                + "person p sort a;person q sort a;in q h;";
        int[] first = {-1, 0, 0};
        int[] hours = {4, 4, 5};
        int[] lost = {8, 8, 8};
        for (int i = 0; i < 3; i++) {
            WageHats x = works(text, hours[i], 4);
            if (first[i] >= 0) {
                x.move(0, first[i]);
            }
            x.seed(0);
            long one = 12345;
            long two = (1103515245L * one + 12345) % 2147483648L;
            long drawn = i == 1 ? two / 64 % 100 : one / 64 % 100;
            x.run(1);
            Check.due("case " + i, x.has(7), drawn < 93 ? lost[i] : 0);
        }
        WageHats x = works(text.replace("looks 93", "looks 50"), 4, 4);
        x.move(0, 0);
        x.seed(0);
        x.run(1);
        long two = (1103515245L * 12345 + 12345) % 2147483648L;
        Check.due("the second draw is q's", x.has(7), two / 64 % 100 < 50 ? 8 : 0);
    }

    /** Both DRAWN together, each the half, the first one told what is left over. */
    private static void pairsShare() {
        String text = "hours 9;" + sort("a", 1) + "hat h keeps 0 least 0 looks 0 even;person p sort a;person q sort a;";
        int[][] due = {{0, 0, 0}, {1, 1, 0}, {2, 1, 1}, {3, 2, 1}, {9, 5, 4}};
        for (int[] row : due) {
            WageHats x = works(text + "in p h;pair p q;", row[0], 7);
            x.run(1);
            due("p first, " + row[0], x, 7, row[1], row[2]);
            due("paid, " + row[0], x, 8, row[1], row[2] + 7);
            x = works(text + "in p h;pair q p;", row[0], 7);
            x.run(1);
            due("q first, " + row[0], x, 7, row[2], row[1]);
            x = works(text + "in q h;pair p q;", 7, row[0]);
            x.run(1);
            due("of the second one, " + row[0], x, 7, row[1], row[2]);
        }
        WageHats x = works(text + "pair p q;", 3, 4);
        Check.due("both alone", x.run(1), 7);
        due("both alone, drawn", x, 7, 0, 0);
    }

    /** What all were PAID in the WEEKS together; PAID so far of each. */
    private static void paidAndDrawn() {
        WageHats x = works("hours 60;" + sort("a", 99) + "hat h keeps 33 least 0 looks 0 after;person p sort a;person q sort a;person r sort a;in p h;in q h;", 60, 60, 60);
        for (int n : new int[] {1, 2, 59, 60}) {
            Check.due("run " + n, x.run(n), 3 * 5940 * n);
        }
        due("so far", x, 8, 122 * 5940, 122 * 5940, 122 * 5940);
        due("of the last week", x, 7, 3979, 3979, 0);
        Check.due("of nobody", new WageHats().run(60), 0);
    }

    /** n WEEKS (1 .. 60): NONE, doing nothing, for others. */
    private static void runArguments() {
        WageHats x = works(THREE, 1, 2, 3);
        for (int n : new int[] {0, -1, 61, 62, MIN, MAX, 9999}) {
            Check.due("run " + n, x.run(n), -1);
            Check.due("weeks", x.has(6), 0);
            due("nothing paid", x, 8, 0, 0, 0);
            due("nothing drawn", x, -1, -1, -1, -1);
        }
        Check.due("run 1", x.run(1), 18);
        Check.due("run 60", x.run(60), 18 * 60);
        Check.due("weeks", x.has(6), 61);
    }

    /** If there would be more than 9999 WEEKS: NONE, doing nothing. */
    private static void lastWeeks() {
        String text = "hours 9;" + sort("a", 1) + "person p sort a;";
        int[][] due = {{9999, 1, 0}, {9998, 1, 1}, {9998, 2, 0}, {9939, 60, 1}, {9940, 60, 0}, {9940, 59, 1}};
        for (int[] row : due) {
            WageHats x = Texts.townOf(text);
            Check.due("weeks of " + row[0], ImageTest.takes(x, 1, 0, 3, 0, 0, row[0] / 256, row[0] % 256), true);
            Check.due("run " + row[1] + " behind " + row[0], x.run(row[1]), row[2] == 1 ? 3 * row[1] : -1);
            Check.due("weeks behind " + row[0], x.has(6), row[0] + row[1] * row[2]);
            Check.due("paid behind " + row[0], x.person(0, 8), 3 * row[1] * row[2]);
        }
    }

    /** LOST so far: 10 to the 9 at most. Twelve lose 4207680 in sixty weeks, so 237 such runs stay below. */
    private static void muchLost() {
        StringBuilder text = new StringBuilder("hours 59;sort a brings 99 tires 0 mind 0 pride 0 need 1;hat h keeps 0 least 60 looks 100 even;");
        int[] image = new int[51];
        image[0] = 12;
        for (int p = 0; p < 12; p++) {
            char name = (char) ('a' + p);
            text.append("person p").append(name).append(" sort a;in p").append(name).append(" h;");
            image[4 * p + 1] = 1;
            image[4 * p + 2] = 59;
        }
        WageHats x = Texts.townOf(text.toString());
        for (int i = 0; i < 237; i++) {
            if (i % 160 == 0) {
                ImageTest.takes(x, image);
            }
            x.run(60);
        }
        int a = 237 * 60 * 12 * 5841;
        Check.due("lost by 237 runs", x.has(7), a);
        int weeks = (1000000000 - a) / (12 * 5841);
        x.run(weeks);
        Check.due("just below", x.has(7), a + weeks * 12 * 5841);
        Check.due("less than a week's is missing", 1000000000 - x.has(7) < 12 * 5841, true);
        x.run(1);
        Check.due("just full", x.has(7), 1000000000);
        x.run(60);
        Check.due("still full", x.has(7), 1000000000);
    }

    // ---- promises 33 to 35

    /** NONE: none, and when there is none such. */
    private static void drewOfNone() {
        WageHats x = Texts.townOf(THREE + "person s sort a;");
        due("ahead of the first week", x, -1, -1, -1, -1, -1);
        x.run(1);
        Check.due("alone", x.drew(3), -1);
        for (int p : new int[] {-1, 4, 12, MIN, MAX}) {
            Check.due("drew of " + p, x.drew(p), -1);
        }
        Check.due("the last one in the hat", x.drew(2) >= 0, true);
    }

    /** HOURS from 0 to the most; a PERSON there is. */
    private static void saidArguments() {
        WageHats x = Texts.townOf(THREE);
        int[][] due = {{0, 0, 1}, {0, 10, 1}, {0, 11, 0}, {0, -1, 0}, {0, MIN, 0}, {0, MAX, 0}, {2, 5, 1}, {3, 5, 0}, {-1, 5, 0}, {12, 5, 0}, {MIN, 0, 0}, {MAX, 0, 0}};
        for (int[] row : due) {
            Check.due("said " + row[0] + " " + row[1], x.said(row[0], row[1]), row[2] == 1);
        }
        Check.due("less", x.less(), 5);
    }

    /** Below what they SAID: one below, alike, one above; who said nothing is none of them. */
    private static void lessThanSaid() {
        WageHats x = Texts.townOf(THREE);
        Check.due("nothing was said", x.less(), 0);
        x.said(1, 5);
        int[][] due = {{0, 2}, {4, 2}, {5, 0}, {6, 0}, {10, 0}};
        for (int[] row : due) {
            x.put(1, row[0]);
            Check.due("less with hours of " + row[0], x.less(), row[1]);
        }
        x.said(1, 0);
        x.put(1, 0);
        Check.due("0 is not below 0", x.less(), 0);
        x.said(0, 1);
        x.said(1, 1);
        x.said(2, 1);
        Check.due("all three", x.less(), 7);
        x.said(1, 11);
        x.said(1, -1);
        Check.due("refused ones do not count", x.less(), 7);
        x.said(1, 0);
        Check.due("said anew", x.less(), 5);
        Check.due("nobody", new WageHats().less(), 0);
    }

    // ---- images

    private static final String TWO = "hours 60;sort a brings 99 tires 0 mind 0 pride 0 need 1;hat e keeps 0 least 0 looks 0 even;hat f keeps 0 least 0 looks 0 even;"
            + "hat g keeps 0 least 0 looks 0 even;hat h keeps 0 least 0 looks 0 even;person p sort a;person q sort a;";

    /** HAT and 1 (0 alone), HOURS, DRAWN (two bytes, the higher first); WEEKS (two). */
    private static void imageOfBytes() {
        int[][] states = {{0, 0, 0, 0}, {1, 1, 255, 255}, {4, 60, 256, 256}, {2, 59, 257, 511}, {3, 10, 65535, 9999}, {1, 2, 32768, 512}};
        for (int[] s : states) {
            WageHats x = Texts.townOf(TWO);
            int[] ahead = {2, s[0], s[1], s[2] / 256, s[2] % 256, 0, 0, 0, 0, s[3] / 256, s[3] % 256};
            Check.due("taken " + Arrays.toString(s), ImageTest.takes(x, ahead), true);
            Check.due("hat", x.person(0, 1), s[0] - 1);
            Check.due("hours", x.person(0, 2), s[1]);
            Check.due("drawn", x.person(0, 7), s[2]);
            Check.due("weeks", x.has(6), s[3]);
            Check.due("as many bytes", x.image(), 12);
            for (int k = 0; k < ahead.length; k++) {
                Check.due("octet " + k + " of " + Arrays.toString(s), x.octet(k), ahead[k]);
            }
        }
        WageHats x = works(TWO, 3, 0);
        x.move(0, 3);
        int[][] weeks = {{60, 60}, {120, 60}, {180, 60}, {240, 60}, {255, 15}, {256, 1}, {257, 1}};
        for (int[] row : weeks) {
            x.run(row[1]);
            x.image();
            Check.due("weeks of " + row[0], x.octet(9) * 256 + x.octet(10), row[0]);
            Check.due("their lower byte", x.octet(10), row[0] % 256);
            Check.due("drawn of 297", x.octet(3) * 256 + x.octet(4), 297);
            Check.due("its lower byte", x.octet(4), 41);
        }
    }

    /** All ahead from 21 on, c = (7 c + it) mod 239. */
    private static void checkByte() {
        int[][] due = {{0, 0, 0, 33}, {0, 0, 1, 34}, {0, 1, 0, 40}, {0, 39, 15, 82}};
        for (int[] row : due) {
            WageHats x = new WageHats();
            Check.due("taken", Texts.image(x, row), true);
            x.image();
            Check.due("check of " + Arrays.toString(row), x.octet(3), row[3]);
        }
        WageHats x = new WageHats();
        int zero = 0;
        int high = 0;
        for (int weeks = 0; weeks < 239; weeks++) {
            Check.due("weeks " + weeks, ImageTest.takes(x, 0, 0, weeks), true);
            x = new WageHats();
            ImageTest.takes(x, 0, 0, weeks);
            x.image();
            zero += x.octet(3) == 0 ? 1 : 0;
            high += x.octet(3) == 238 ? 1 : 0;
            Check.due("below 239", x.octet(3) < 239, true);
        }
        Check.due("0 and 238 come", zero * 10 + high, 11);
    }

    /** NONE when there is none such; of the latest image(). */
    private static void octets() {
        WageHats x = Texts.townOf(TWO);
        for (int k : new int[] {MIN, -1, 0, 1, MAX}) {
            Check.due("ahead of any image, octet " + k, x.octet(k), -1);
        }
        Check.due("image", x.image(), 12);
        for (int k : new int[] {MIN, -1, 12, 13, MAX}) {
            Check.due("octet " + k, x.octet(k), -1);
        }
        Check.due("the first", x.octet(0), 2);
        Check.due("the last", x.octet(11) >= 0, true);
        x.put(0, 7);
        Check.due("of the latest, not of now", x.octet(2), 0);
        x.image();
        Check.due("of the later one", x.octet(2), 7);
        Texts.town(x, "");
        Check.due("it stays with a new town", x.octet(2), 7);
        Check.due("image of nobody", x.image(), 4);
        Check.due("the last of four", x.octet(3), 33);
        Check.due("none behind it", x.octet(4), -1);
    }

    /** It is taken, if it is such: with any other byte of its own it is none. */
    private static void onEachByte() {
        int[] good = {2, 1, 5, 1, 44, 4, 60, 0, 9, 1, 2, 0};
        good[11] = ImageTest.check(good, 11);
        for (int k = 0; k < good.length; k++) {
            for (int change : new int[] {1, 255, 128}) {
                WageHats x = Texts.townOf(TWO);
                int[] bytes = good.clone();
                bytes[k] = (bytes[k] + change) % 256;
                boolean like = k < 11 && ImageTest.check(bytes, 11) == bytes[11];
                Check.due("byte " + k + " by " + change, Texts.image(x, bytes), like);
            }
        }
        WageHats x = Texts.townOf(TWO);
        for (int c = 0; c < 256; c++) {
            int[] bytes = good.clone();
            bytes[11] = c;
            Check.due("check byte " + c, Texts.image(x, bytes), c == good[11]);
            if (c % 60 == 59) {
                x = Texts.townOf(TWO);
            }
        }
    }

    /** With as many PERSONS, and each can be: a HAT there is, HOURS not above the most. */
    private static void onHatsAndHours() {
        int[][] due = {{2, 0, 0, 1}, {2, 1, 0, 1}, {2, 4, 0, 1}, {2, 5, 0, 0}, {2, 255, 0, 0}, {2, 0, 59, 1}, {2, 0, 60, 1}, {2, 0, 61, 0}, {2, 0, 255, 0}, {1, 0, 0, 0}, {3, 0, 0, 0},
            {0, 0, 0, 0}, {255, 0, 0, 0}};
        for (int[] row : due) {
            Check.due("of the first " + Arrays.toString(row), ImageTest.takes(Texts.townOf(TWO), row[0], row[1], row[2], 0, 0, 0, 0, 0, 0, 0, 0), row[3] == 1);
            Check.due("of the last " + Arrays.toString(row), ImageTest.takes(Texts.townOf(TWO), row[0], 0, 0, 0, 0, row[1], row[2], 0, 0, 0, 0), row[3] == 1);
        }
        String none = "hours 0;" + sort("a", 1) + "person p sort a;";
        Check.due("no hat to be in", ImageTest.takes(Texts.townOf(none), 1, 1, 0, 0, 0, 0, 0), false);
        Check.due("alone", ImageTest.takes(Texts.townOf(none), 1, 0, 0, 0, 0, 0, 0), true);
        Check.due("none may work", ImageTest.takes(Texts.townOf(none), 1, 0, 1, 0, 0, 0, 0), false);
        Check.due("drawn of any", ImageTest.takes(Texts.townOf(none), 1, 0, 0, 255, 255, 0, 0), true);
    }

    /** WEEKS 0 .. 9999. */
    private static void onWeeks() {
        int[][] due = {{0, 1}, {1, 1}, {9998, 1}, {9999, 1}, {10000, 0}, {10001, 0}, {65535, 0}, {32768, 0}};
        for (int[] row : due) {
            WageHats x = Texts.townOf(TWO);
            Check.due("weeks of " + row[0], ImageTest.takes(x, 2, 0, 0, 0, 0, 0, 0, 0, 0, row[0] / 256, row[0] % 256), row[1] == 1);
            Check.due("weeks then", x.has(6), row[0] * row[1]);
        }
    }

    /** A byte less, a byte more, none at all. */
    private static void onLengths() {
        int[] good = {2, 0, 0, 0, 0, 0, 0, 0, 0, 0, 0, 0};
        for (int length = 0; length <= 20; length++) {
            int[] bytes = Arrays.copyOf(good, length);
            if (length > 0) {
                bytes[length - 1] = ImageTest.check(bytes, length - 1);
            }
            Check.due("of " + length + " bytes", Texts.image(Texts.townOf(TWO), bytes), length == 12);
        }
        Check.due("of a full tape", Texts.image(Texts.townOf(TWO), Arrays.copyOf(good, 1600)), false);
        Check.due("of none, by nobody", new WageHats().on(), false);
        Check.due("of four, by nobody", Texts.image(new WageHats(), 0, 0, 0, 33), true);
        Check.due("of three, by nobody", Texts.image(new WageHats(), 0, 0, 33), false);
    }

    /** False when it is none (all stays). */
    private static void onRefused() {
        int[][] wrong = {{3, 3, 1, 0, 0, 0, 1, 0, 0, 0, 1, 0, 0, 0, 1}, {3, 0, 10, 0, 9, 0, 1, 0, 0, 0, 1, 0, 0, 0, 1}, {3, 0, 1, 0, 9, 0, 1, 0, 9, 0, 1, 0, 9, 39, 16},
            {3, 0, 1, 0, 9, 0, 1, 0, 9, 3, 1, 0, 9, 0, 1}, {3, 0, 1, 0, 9, 0, 1, 0, 9, 0, 10, 0, 9, 0, 1}, {4, 0, 1, 0, 9, 0, 1, 0, 9, 0, 1, 0, 9, 0, 1}, {3}, {}};
        for (int[] bytes : wrong) {
            WageHats touched = Witness.lived();
            WageHats due = Witness.lived();
            touched.end(0);
            due.end(0);
            Check.due("refused " + Arrays.toString(bytes), ImageTest.takes(touched, bytes), false);
            Witness.alike("refused " + Arrays.toString(bytes), touched, due);
        }
    }

    /** HATS, HOURS, DRAWN and WEEKS are as it tells, nobody had a SLIP in the last WEEK (all else stays). */
    private static void onTaken() {
        WageHats x = Witness.lived();
        WageHats due = Witness.lived();
        x.end(0);
        due.end(0);
        int paid = x.person(0, 8);
        int lost = x.has(7);
        Check.due("somebody had a slip", x.drew(0) >= 0, true);
        Check.due("something was paid", paid > 0, true);
        Check.due("something was lost", lost > 0, true);
        Check.due("taken", ImageTest.takes(x, 3, 0, 9, 0, 77, 1, 0, 1, 0, 2, 4, 0, 1, 2, 3), true);
        int[][] told = {{-1, 9, 77}, {0, 0, 256}, {1, 4, 1}};
        for (int p = 0; p < 3; p++) {
            Check.due("hat of " + p, x.person(p, 1), told[p][0]);
            Check.due("hours of " + p, x.person(p, 2), told[p][1]);
            Check.due("drawn of " + p, x.person(p, 7), told[p][2]);
            Check.due("no slip of " + p, x.drew(p), -1);
            Check.due("paid of " + p, x.person(p, 8), due.person(p, 8));
        }
        Check.due("weeks", x.has(6), 515);
        Check.due("lost stays", x.has(7), lost);
        Check.due("keeps stay", x.hat(1, 0), 15);
        Check.due("said stays: q said 2", x.less(), 2);
        for (int k = 0; k < 16; k++) {
            Check.due("the latest image stays", x.octet(k), due.octet(k));
        }
        WageHats other = Witness.lived();
        other.end(0);
        for (int p = 0; p < 3; p++) {
            other.put(p, told[p][1]);
        }
        other.move(0, -1);
        x.run(1);
        other.run(1);
        for (int p = 0; p < 3; p++) {
            Check.due("the seed stays: slip of " + p, x.drew(p), other.drew(p));
        }
    }
}
