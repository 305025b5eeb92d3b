import java.util.Arrays;

/** Promises 31 to 35: weeks by a seed, rules, slips, what is lost, shared and paid. */
final class WeeksTest {
    private WeeksTest() {
    }

    static void runAll() {
        drawsOfABeforeHat();
        seeds();
        beforeGoesFirst();
        kinds();
        looking();
        pairs();
        aheadOfTheWeek();
        facts();
        sums();
        tests();
        longRules();
        ownSlip();
        wrongRuns();
        lastWeek();
        muchLost();
        said();
    }

    private static final String THREE = "hours 10; sort a brings 3 tires 0 mind 0 pride 0 need 1;"
            + "hat f keeps 10 least 0 looks 0 before; person p sort a; person q sort a; person r sort a;"
            + "in p f; in q f; in r f;";

    private static void due(String label, WageHats x, int what, int... each) {
        for (int p = 0; p < each.length; p++) {
            Check.due(label + ", person " + p + " " + what, what < 0 ? x.drew(p) : x.person(p, what), each[p]);
        }
    }

    /** By the seed 1: 17242618 mod 3 is 1, 5896899 mod 2 is 1; then 17935980 mod 3 and 31797116 mod 2 are 0. */
    private static void drawsOfABeforeHat() {
        WageHats x = Texts.townOf(THREE);
        x.put(0, 1);
        x.put(1, 2);
        x.put(2, 3);
        due("nobody yet", x, -1, -1, -1, -1);
        Check.due("drew of none", x.drew(3), -1);
        Check.due("drew of none below", x.drew(-1), -1);
        Check.due("paid in the first week", x.run(1), 18);
        due("first week, whose", x, -1, 1, 2, 0);
        due("first week, drawn", x, 7, 5, 8, 2);
        due("first week, paid", x, 8, 6, 9, 3);
        Check.due("paid in the second week", x.run(1), 18);
        due("second week, whose", x, -1, 0, 1, 2);
        due("second week, drawn", x, 7, 2, 5, 8);
        due("second week, paid", x, 8, 9, 15, 12);
        due("hours without rules", x, 2, 1, 2, 3);
        x.move(0, -1);
        due("whose stays with a move", x, -1, 0, 1, 2);
        x.run(1);
        Check.due("alone none", x.drew(0), -1);
        Check.due("alone drawn", x.person(0, 7), 0);
        Check.due("alone paid what it earned", x.person(0, 8), 12);
        Check.due("weeks", x.has(6), 3);
    }

    private static void seeds() {
        int[][] first = {{0, 0, 2, 1}, {5, 0, 1, 2}, {2147483647, 2, 0, 1}, {1, 1, 2, 0}};
        for (int[] row : first) {
            WageHats x = Texts.townOf(THREE);
            Check.due("seed " + row[0], x.seed(row[0]), true);
            Check.due("seed -1", x.seed(-1), false);
            Check.due("seed min", x.seed(Integer.MIN_VALUE), false);
            x.run(1);
            due("seed " + row[0], x, -1, row[1], row[2], row[3]);
        }
    }

    /** By the seed 0, draws of two: 0 first, for g, then (behind a draw of one) 1, for f. */
    private static void beforeGoesFirst() {
        WageHats x = Texts.townOf("sort a brings 3 tires 0 mind 0 pride 0 need 1; hat f keeps 0 least 0 looks 0 after;"
                + "hat g keeps 0 least 0 looks 0 before; person p sort a; person q sort a; person r sort a; person s sort a;"
                + "in p f; in q f; in r g; in s g;");
        x.seed(0);
        x.run(1);
        due("before goes first", x, -1, 1, 0, 2, 3);
    }

    private static void kinds() {
        String text = "hours 9; sort a brings 5 tires 0 mind 0 pride 0 need 2; sort b brings 3 tires 0 mind 0 pride 0 need 5;"
                + "hat e keeps 20 least 0 looks 0 KIND; person p sort a; person q sort b; person r sort a; in p e; in q e;"
                + "works b 7 when all;";
        WageHats x = Texts.townOf(text.replace("KIND", "even"));
        x.put(0, 3);
        x.put(2, 2);
        Check.due("even: paid to all", x.run(1), 46);
        due("even: slips", x, 5, 12, 16, 0);
        due("even: drawn", x, 7, 14, 14, 0);
        due("even: paid", x, 8, 17, 19, 10);
        due("even: whose", x, -1, -1, -1, -1);
        x.put(1, 2);
        x.put(0, 2);
        x.run(1);
        due("even: slips of floors", x, 5, 8, 16, 0);
        x = Texts.townOf(text.replace("KIND", "share"));
        x.put(0, 3);
        x.run(1);
        due("share: drawn, floor(28 * 2 / 7), floor(28 * 5 / 7)", x, 7, 8, 20, 0);
        x.put(0, 2);
        x.run(1);
        due("share: drawn, floor(24 * 2 / 7), floor(24 * 5 / 7)", x, 7, 6, 17, 0);
        due("share: whose", x, -1, -1, -1, -1);
        x = Texts.townOf(text.replace("KIND", "after"));
        x.put(0, 3);
        x.seed(5);
        x.run(1);
        due("after: whose", x, -1, 1, 0, -1);
        due("after: drawn by the hours of the week", x, 7, 16, 12, 0);
        x = Texts.townOf(text.replace("KIND", "before"));
        x.put(0, 3);
        x.seed(5);
        x.run(1);
        due("before: whose", x, -1, 1, 0, -1);
        due("before: drawn by the hours of the week", x, 7, 16, 12, 0);
    }

    /** By the seed 1 draws of 100 are 18, 99, 26, 80. */
    private static void looking() {
        WageHats x = Texts.townOf("hours 9; sort a brings 5 tires 0 mind 0 pride 0 need 1; hat e keeps 0 least 3 looks 19 even;"
                + "hat g keeps 0 least 4 looks 26 even; hat i keeps 0 least 4 looks 81 even;"
                + "person p sort a; person q sort a; person r sort a; person s sort a; person t sort a;"
                + "in p e; in q e; in r g; in s g; in t i;");
        x.put(0, 2);
        x.put(1, 3);
        x.put(2, 3);
        x.put(3, 3);
        x.put(4, 1);
        Check.due("paid, less 12 of p and 5 of t", x.run(1), 12 + 15 + 15);
        due("18 is below 19; 99 and 26 are not below 26; 80 is below 81", x, 7, 0, 12, 15, 15, 0);
        Check.due("lost", x.has(7), 17);
        x = Texts.townOf("hours 9; sort a brings 5 tires 0 mind 0 pride 0 need 1; hat e keeps 0 least 3 looks 18 even;"
                + "hat g keeps 20 least 4 looks 100 even; person p sort a; person q sort a; person r sort a; in q g; in r e;");
        x.put(1, 3);
        x.put(0, 1);
        x.put(2, 1);
        x.run(1);
        due("by number: q first, 18 below 100; r 99 is not below 18", x, 7, 0, 0, 5);
        Check.due("kept is not lost", x.person(1, 8), 3);
        Check.due("lost once", x.has(7), 12);
        x.run(1);
        Check.due("lost twice", x.has(7), 24);
        x.put(1, 4);
        x.put(2, 3);
        x.run(1);
        Check.due("least is enough", x.has(7), 24);
    }

    private static void pairs() {
        WageHats x = Texts.townOf("hours 9; sort a brings 5 tires 0 mind 0 pride 0 need 1; hat e keeps 0 least 0 looks 0 even;"
                + "hat g keeps 0 least 9 looks 100 even; person p sort a; person q sort a; person r sort a; person s sort a;"
                + "in p e; in q g; in r e; pair s r; pair q p;");
        x.put(0, 2);
        x.put(1, 1);
        x.put(2, 1);
        x.put(3, 4);
        Check.due("paid", x.run(1), 7 + 7 + 20);
        due("halves, the first one more; what was lost is not shared", x, 7, 3, 4, 3, 4);
        due("paid to each", x, 8, 3, 4, 3, 24);
        Check.due("lost", x.has(7), 5);
        Check.due("pair 0 was paid", x.pair(0, 2), 27);
    }

    /** p works one more each week; q what the most of others was ahead of the week, r what it drew then. */
    private static void aheadOfTheWeek() {
        WageHats x = Texts.townOf("hours 9; sort a brings 1 tires 0 mind 0 pride 0 need 1; sort b brings 1 tires 0 mind 0 pride 0 need 1;"
                + "sort c brings 1 tires 0 mind 0 pride 0 need 1; hat e keeps 0 least 0 looks 0 even;"
                + "person p sort a; person q sort b; person r sort c; in p e; in q e; in r e;"
                + "works a last + 1 when all; works b most when all; works c drawn when all;");
        int[][] hours = {{1, 0, 0}, {2, 1, 0}, {3, 2, 1}, {4, 3, 2}, {5, 4, 3}};
        for (int[] due : hours) {
            x.run(1);
            due("hours " + Arrays.toString(due), x, 2, due);
        }
        x.run(60);
        due("the most one may; floor((9 + 9 + 8) / 3)", x, 2, 9, 9, 8);
    }

    private static int hoursBy(String sum, String test) {
        WageHats x = Texts.townOf("hours 60; sort a brings 7 tires 0 mind 0 pride 0 need 1; sort b brings 9 tires 0 mind 0 pride 0 need 1;"
                + "hat h keeps 44 least 0 looks 0 even; person p sort a; person q sort b; in p h; in q h; works a "
                + sum + " when " + test + ";");
        x.put(0, 11);
        x.put(1, 22);
        x.run(1);
        return x.person(0, 2);
    }

    private static void facts() {
        Check.due("many", hoursBy("many", "all"), 2);
        Check.due("brings", hoursBy("brings", "all"), 7);
        Check.due("week", hoursBy("week + 5", "all"), 5);
        Check.due("last", hoursBy("last", "all"), 11);
        Check.due("most", hoursBy("most", "all"), 22);
        Check.due("drawn", hoursBy("drawn + 3", "all"), 3);
        Check.due("own", hoursBy("own + 4", "all"), 4);
        Check.due("kept", hoursBy("kept", "all"), 44);
        WageHats x = Texts.townOf("hours 60; sort a brings 7 tires 0 mind 0 pride 0 need 1; person p sort a; person q sort a;"
                + "works a many * 5 + most + kept / 10 + own when week = 0; works a drawn + week * 20 when week = 2;");
        x.put(1, 50);
        x.run(1);
        due("alone: 1, 0, 100, 0", x, 2, 15, 15);
        x.run(1);
        due("no test holds", x, 2, 15, 15);
        x.run(1);
        due("week 2, nothing drawn", x, 2, 40, 40);
    }

    private static void sums() {
        String[] sums = {"7 / 2", "(0 - 7) / 2 + 10", "7 / 0 + 5", "(0 - 7) / 0 + 5", "2 + 3 * 4", "10 - 3 - 2", "100 / 10 / 2",
            "2 * 3 / 4", "3 / 4 * 2", "(2 + 3) * 4", "9999 * 9999 / 5000 / 4", "(0 - 9999) * 9999 / 5000 / 4 + 60",
            "9999 * 100 + 9999 * 100 - 9999 * 100 - 90", "(0 - 9999 * 100 - 9999 * 100 + 9999 * 100) + 9999 / 99 + 50",
            "min (3, 5) * 10 + max (3, 5)", "min (5, 3) * 10 + max (5, 3)", "0 - 5", "61", "9999", "0060", "7 / (0 - 2) + 10",
            "(0 - 7) / (0 - 2)", "9999 * 100 + 100", "9999 * 100 + 101 - 9999 * 100 - 90", "8 - 2 * 3", "(8 - 2) * 3"};
        int[] due = {3, 6, 5, 5, 14, 5, 5, 1, 0, 20, 50, 10, 10, 51, 35, 35, 0, 60, 60, 60, 6, 3, 60, 10, 2, 18};
        for (int i = 0; i < sums.length; i++) {
            Check.due(sums[i], hoursBy(sums[i], "all"), due[i]);
        }
    }

    private static void tests() {
        String[] hold = {"all", "1 < 2", "2 > 1", "1 = 1", "not 1 = 2", "all and 1 = 1", "1 = 2 or all", "all or all and 1 = 2",
            "1 = 2 and 1 = 2 or all", "not [1 = 2 and 1 = 2]", "not not all", "[all]", "not 1 < 1 and all", "1 = 2 or 1 = 2 or all",
            "1 + 1 = 2", "3 - 1 < 2 * 2", "not all or all", "[1 = 2 or all] and all"};
        String[] fail = {"not all", "not 1 = 1", "not 1 < 2", "not 2 > 1", "2 < 1", "1 < 1", "1 > 2", "1 > 1", "1 = 2", "all and 1 = 2", "1 = 2 or 2 = 1",
            "[all or all] and 1 = 2", "not 1 = 2 and 1 = 2", "not [1 = 2 or all]", "not not not all", "all and all and 2 = 3",
            "not all and all", "not [all and all]"};
        for (String test : hold) {
            Check.due(test, hoursBy("5", test), 5);
        }
        for (String test : fail) {
            Check.due(test, hoursBy("5", test), 11);
        }
        Check.due("the first that holds", hoursBy("1 when not all; works a 2 when all; works a 3", "all"), 2);
        Check.due("of its sort", hoursBy("1 when not all; works b 2 when all; works a 3", "all"), 3);
    }

    /** Rules of older towns take no room. */
    private static void longRules() {
        String text = "sort a brings 1 tires 0 mind 0 pride 0 need 1;person p sort a;works a 0" + "+0".repeat(680) + "+7 when all;";
        WageHats x = new WageHats();
        for (int i = 0; i < 4; i++) {
            Check.due("a long town", Texts.town(x, text), 3);
            x.run(1);
            Check.due("its rule", x.person(0, 2), 7);
        }
    }

    /** By the seed 1 p draws q's slip first, then its own; an after hat gives no own one, nor a week behind. */
    private static void ownSlip() {
        String rule = "works a own * 5 + 1 when all;";
        WageHats x = Texts.townOf(THREE + rule);
        x.run(1);
        due("nobody has its own", x, 2, 1, 1, 1);
        x.run(1);
        due("all have their own", x, 2, 6, 6, 6);
        for (int p = 0; p < 3; p++) {
            x.move(p, -1);
        }
        x.run(1);
        due("alone none has", x, 2, 1, 1, 1);
        x = Texts.townOf(THREE.replace("before", "after") + rule);
        x.run(1);
        due("after: whose", x, -1, 1, 2, 0);
        x.run(1);
        due("after: all their own", x, -1, 0, 1, 2);
        x.run(1);
        due("after: no own one counts", x, 2, 1, 1, 1);
    }

    private static void wrongRuns() {
        WageHats x = Texts.townOf(THREE);
        x.put(0, 1);
        Check.due("run 0", x.run(0), -1);
        Check.due("run 61", x.run(61), -1);
        Check.due("run -1", x.run(-1), -1);
        Check.due("weeks stay", x.has(6), 0);
        Check.due("paid stays", x.person(0, 8), 0);
        Check.due("run 60", x.run(60), 180);
        Check.due("sixty weeks", x.has(6), 60);
    }

    private static void lastWeek() {
        WageHats x = new WageHats();
        Check.due("an image of week 9950", ImageTest.takes(x, 0, 9950 / 256, 9950 % 256), true);
        Check.due("not fifty weeks", x.run(50), -1);
        Check.due("weeks stay", x.has(6), 9950);
        Check.due("forty-nine", x.run(49), 0);
        Check.due("9999", x.has(6), 9999);
        Check.due("not one", x.run(1), -1);
    }

    /** Twelve lose 5841 each a week, of more than 238 times 60 weeks: 10 to the 9 is told, no more. */
    private static void muchLost() {
        StringBuilder text = new StringBuilder("hours 60; sort a brings 99 tires 0 mind 0 pride 0 need 1; hat h keeps 0 least 60 looks 100 even;");
        int[] image = new int[51];
        image[0] = 12;
        for (int p = 0; p < 12; p++) {
            char name = (char) ('a' + p);
            text.append("person p").append(name).append(" sort a;in p").append(name).append(" h;");
            image[4 * p + 1] = 1;
            image[4 * p + 2] = 59;
        }
        WageHats x = Texts.townOf(text.toString());
        long lost = 0;
        for (int i = 0; i < 240; i++) {
            if (i % 160 == 0) {
                Check.due("image " + i, ImageTest.takes(x, image), true);
            }
            Check.due("all is lost " + i, x.run(60), 0);
            lost = Math.min(1000000000L, lost + 60L * 12 * 59 * 99);
            Check.due("lost " + i, x.has(7), lost);
        }
        Check.due("10 to the 9", lost, 1000000000L);
    }

    private static void said() {
        WageHats x = Texts.townOf(THREE);
        Check.due("less at first", x.less(), 0);
        Check.due("said 0 5", x.said(0, 5), true);
        Check.due("said 2 1", x.said(2, 1), true);
        Check.due("said 1 0", x.said(1, 0), true);
        Check.due("said 0 11", x.said(0, 11), false);
        Check.due("said 0 -1", x.said(0, -1), false);
        Check.due("said 3 1", x.said(3, 1), false);
        Check.due("said -1 1", x.said(-1, 1), false);
        Check.due("less", x.less(), 5);
        x.put(2, 1);
        Check.due("as said is not less", x.less(), 1);
        x.put(0, 4);
        Check.due("still less", x.less(), 1);
        Check.due("said 0 4", x.said(0, 4), true);
        Check.due("said anew", x.less(), 0);
        Check.due("said 0 10", x.said(0, 10), true);
        Check.due("the most one may", x.less(), 1);
    }
}
