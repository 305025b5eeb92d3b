import java.util.Arrays;

/** Promises 17 to 30: parts, looks, sizes, kinds, ends, pairs, wishes, partings and rings. */
final class HatsTest {
    private static final int NOTHING = -1000000000;
    private static final String LATE_RING = "hours 12; sort a brings 11 tires 66 mind 87 pride 0 need 1; sort c brings 1 tires 39 mind 7 pride 953 need 3;"
            + "hat h keeps 24 least 10 looks 71 even; person p sort c; person q sort a; in p h; in q h;";
    private static final String RING_OF_THREE = "hours 12; sort a brings 99 tires 16 mind 100 pride 0 need 1;"
            + "sort b brings 1 tires 19 mind 89 pride 634 need 3; hat h keeps 8 least 3 looks 91 after;"
            + "person p sort b; person q sort b; person r sort a; person s sort a; person t sort b;"
            + "in p h; in q h; in r h; in s h; in t h; pair p q;";

    private HatsTest() {
    }

    static void runAll() {
        part();
        look();
        partBelowZero();
        lookFromTheHoursOfNow();
        lookAtEach();
        size();
        many();
        under();
        ends();
        endsOfOneHour();
        alike();
        ring();
        pair();
        would();
        wish();
        choose();
        gap();
        rings();
        noTown();
    }

    /** Two of one sort in h; an hour brings 1000, the k-th one tires by 99 (2 k - 1). */
    private static WageHats two(String least, String looks) {
        return Texts.townOf("hours 10; sort a brings 10 tires 99 mind 0 pride 0 need 1;"
                + "hat h keeps 0 least " + least + " looks " + looks + " even; hat g keeps 50 least 0 looks 0 share;"
                + "person p sort a; person q sort a; in p h; in q h;");
    }

    /** With keeps 75 an hour brings its one 900, by floors: five hours, as with more; with 70 it is 850. */
    private static void part() {
        WageHats x = two("0", "0");
        x.keep(0, 7);
        x.put(1, 9);
        Check.due("part", x.part(0, 0), 75);
        Check.due("part's worth", x.part(0, 1), 5050);
        Check.due("part 2", x.part(0, 2), NOTHING);
        Check.due("part -1", x.part(0, -1), NOTHING);
        Check.due("part of no hat", x.part(2, 0), NOTHING);
        Check.due("part of no hat below", x.part(-1, 1), NOTHING);
        Check.due("keeps stay", x.hat(0, 0), 7);
        Check.due("hours stay", x.person(1, 2), 9);
        Check.due("part of an empty hat: the first of like ones", x.part(1, 0), 0);
        Check.due("worths without a change there", x.part(1, 1), 4218);
        x.keep(0, 75);
        Check.due("rounds with it", x.rest(60), 2);
        Check.due("all with it", x.all(), 5050);
    }

    /** p tires itself for pride, whatever is kept: 100 times 10 for q, less 99 * 25 + 999 * 5. */
    private static void partBelowZero() {
        WageHats x = Texts.townOf("hours 10; sort a brings 0 tires 99 mind 0 pride 999 need 1; sort b brings 1 tires 0 mind 0 pride 0 need 1;"
                + "hat h keeps 50 least 0 looks 0 even; person p sort a; person q sort b; in p h; in q h;");
        Check.due("part of like ones below 0", x.part(0, 0), 0);
        Check.due("its worth", x.part(0, 1), 1000 - 2475 - 4995);
    }

    /** By looks of 10 q, beside two hours of p, finds four worth 1416 and two 1404 (by 9 1424); then p follows. */
    private static void look() {
        WageHats x = two("4", "88");
        Check.due("look", x.look(0), 10);
        Check.due("looks stay", x.hat(0, 2), 88);
        Check.due("hours stay", x.person(0, 2), 0);
        Check.due("look at nobody", x.look(1), 0);
        Check.due("look at no hat", x.look(2), -1);
        Check.due("look at no hat below", x.look(-1), -1);
        Check.due("without looks it does", two("3", "0").look(0), 0);
    }

    private static void lookFromTheHoursOfNow() {
        WageHats x = two("7", "0");
        Check.due("no looks do", x.look(0), -1);
        x.put(1, 10);
        Check.due("with one that works already", x.look(0), 44);
        Check.due("a least that none may work", two("11", "0").look(0), -1);
    }

    /** With looks of 99 q's work leaves p 9 for nothing, more than the 4 of least hours; with 100 nothing. */
    private static void lookAtEach() {
        WageHats x = Texts.townOf("hours 9; sort a brings 0 tires 56 mind 0 pride 0 need 1; sort b brings 2 tires 0 mind 0 pride 0 need 7;"
                + "hat h keeps 0 least 4 looks 0 even; person p sort a; person q sort b; in p h; in q h;");
        x.put(1, 9);
        Check.due("looks of 100", x.look(0), 100);
        x = Texts.townOf("hours 9; sort a brings 0 tires 57 mind 0 pride 0 need 1; sort b brings 2 tires 0 mind 0 pride 0 need 7;"
                + "hat h keeps 0 least 4 looks 0 even; person p sort a; person q sort b; in p h; in q h;");
        x.put(1, 9);
        Check.due("the first one never does", x.look(0), -1);
    }

    private static void size() {
        WageHats x = two("0", "0");
        x.put(0, 10);
        int[][] due = {{1, 5, 2525}, {2, 3, 2109}, {3, 2, 1604}, {4, 1, 901}, {10, 1, 901}, {11, 0, 0}, {20, 0, 0}};
        for (int[] row : due) {
            Check.due("hours by size " + row[0], x.size(0, 0, row[0], 0), row[1]);
            Check.due("worth by size " + row[0], x.size(0, 0, row[0], 1), row[2]);
        }
        Check.due("with a part kept: 4 hours", x.size(0, 1, 2, 0), 4);
        Check.due("with a part kept: worth", x.size(0, 1, 2, 1), 2416);
        x.keep(1, 0);
        Check.due("with none kept", x.size(0, 1, 2, 1), 2109);
        Check.due("size 0", x.size(0, 0, 0, 0), NOTHING);
        Check.due("size 21", x.size(0, 0, 21, 0), NOTHING);
        Check.due("no such sort", x.size(1, 0, 1, 0), NOTHING);
        Check.due("no such sort below", x.size(-1, 0, 1, 0), NOTHING);
        Check.due("no such hat", x.size(0, 2, 1, 0), NOTHING);
        Check.due("no such hat below", x.size(0, -1, 1, 0), NOTHING);
        Check.due("size what 2", x.size(0, 0, 1, 2), NOTHING);
        Check.due("size what -1", x.size(0, 0, 1, -1), NOTHING);
        Check.due("hours stay", x.person(0, 2), 10);
        Check.due("persons stay", x.has(2), 2);
        Check.due("hats stay", x.person(1, 1), 0);
    }

    private static void many() {
        WageHats x = two("0", "0");
        Check.due("many", x.many(0, 0), 1);
        Check.due("many of no sort", x.many(1, 0), -1);
        Check.due("many of no sort below", x.many(-1, 0), -1);
        Check.due("many in no hat", x.many(0, 2), -1);
        Check.due("many in no hat below", x.many(0, -1), -1);
        x = Texts.townOf("sort a brings 0 tires 0 mind 0 pride 0 need 1; hat h keeps 0 least 0 looks 0 even;");
        Check.due("the first of like ones", x.many(0, 0), 1);
    }

    /** By need p gets a tenth, q nine tenths of all; even: the half each. */
    private static void under() {
        WageHats x = Texts.townOf("hours 10; sort a brings 10 tires 99 mind 0 pride 0 need 1;"
                + "sort b brings 10 tires 49 mind 0 pride 0 need 9; hat h keeps 0 least 0 looks 0 even;"
                + "person p sort a; person q sort b; person r sort a; in p h; in q h;");
        x.put(0, 7);
        Check.due("under share: worths", x.under(0, 3, 0), 901 + 5031 + 2525);
        Check.due("under share: hours", x.under(0, 3, 1), 10);
        Check.due("under even: worths", x.under(0, 2, 0), 3109 + 2775 + 2525);
        Check.due("under even: hours", x.under(0, 2, 1), 8);
        Check.due("under after, nobody minds", x.under(0, 0, 0), 3109 + 2775 + 2525);
        Check.due("under before", x.under(0, 1, 1), 8);
        Check.due("kind stays", x.hat(0, 3), 2);
        Check.due("hours stay", x.person(0, 2), 7);
        Check.due("under 4", x.under(0, 4, 0), NOTHING);
        Check.due("under -1", x.under(0, -1, 0), NOTHING);
        Check.due("under what 2", x.under(0, 0, 2), NOTHING);
        Check.due("under what -1", x.under(0, 0, -1), NOTHING);
        Check.due("under no hat", x.under(1, 0, 0), NOTHING);
        Check.due("under no hat below", x.under(-1, 0, 0), NOTHING);
    }

    /** From below one hour each is best, less the half; from above seven, that none looks for. */
    private static void ends() {
        WageHats x = two("7", "50");
        x.put(0, 4);
        int[] due = {2, 14, 802, 4298, 0};
        for (int what = 0; what < due.length; what++) {
            Check.due("ends " + what, x.ends(what), due[what]);
        }
        Check.due("ends 5", x.ends(5), NOTHING);
        Check.due("ends -1", x.ends(-1), NOTHING);
        Check.due("hours stay", x.person(0, 2), 4);
        x = two("0", "0");
        int[] like = {6, 6, 4218, 4218, 1};
        for (int what = 0; what < like.length; what++) {
            Check.due("like ends " + what, x.ends(what), like[what]);
        }
    }

    /** An hour is worth 1 beside another one's, less than 0 beside none. */
    private static void endsOfOneHour() {
        WageHats x = Texts.townOf("hours 1; sort a brings 1 tires 99 mind 0 pride 0 need 1; hat h keeps 0 least 1 looks 99 even;"
                + "person p sort a; person q sort a; in p h; in q h;");
        int[] due = {0, 2, 0, 2, 0};
        for (int what = 0; what < due.length; what++) {
            Check.due("ends of one hour " + what, x.ends(what), due[what]);
        }
    }

    private static void alike() {
        WageHats x = two("0", "0");
        x.put(0, 4);
        Check.due("alike", x.alike(0), 5);
        Check.due("alike worths", x.alike(1), 5050);
        Check.due("alike 2", x.alike(2), NOTHING);
        Check.due("alike -1", x.alike(-1), NOTHING);
        Check.due("hours stay", x.person(0, 2), 4);
        x = Texts.townOf("sort a brings 10 tires 40 mind 0 pride 0 need 1; person p sort a;");
        Check.due("the least of 12 and 13", x.alike(0), 12);
        Check.due("their worth", x.alike(1), 6240);
        x = Texts.townOf("hours 4; sort a brings 10 tires 40 mind 0 pride 0 need 1; person p sort a;");
        Check.due("the most one may", x.alike(0), 4);
    }

    /** Rounds that go round in a ring are sixty all the same. */
    private static void ring() {
        WageHats x = Texts.townOf(WorthTest.RING);
        x.put(0, 8);
        x.put(1, 8);
        Check.due("sixty from 8 8", x.under(0, 2, 1), 16);
        x.rest(1);
        Check.due("sixty from 7 7", x.under(0, 2, 1), 14);
        for (int start = 0; start < 81; start++) {
            sixty(WorthTest.RING, start % 9, start / 9);
        }
        sixty(LATE_RING, 12, 12);
        for (int p = 0; p <= 12; p++) {
            sixty(LATE_RING, p, 12);
        }
        Check.due("a ring of three", sixty(RING_OF_THREE, 12, 0, 5, 2, 12), -2);
        Check.due("one round on", sixty(RING_OF_THREE, 12, 0, 5, 2, 11), -2);
        for (int start = 0; start < 250; start++) {
            sixty(RING_OF_THREE, start % 13, start % 12, start % 11, start % 7, start % 13);
        }
    }

    /** What would be behind sixty rounds is what is behind them; what rest(60) answers. */
    private static int sixty(String town, int... hours) {
        WageHats x = Texts.townOf(town);
        for (int p = 0; p < hours.length; p++) {
            x.put(p, hours[p]);
        }
        int kind = x.hat(0, 3);
        int worths = x.under(0, kind, 0);
        int work = x.under(0, kind, 1);
        int rounds = x.rest(60);
        String label = "sixty rounds from " + Arrays.toString(hours);
        Check.due(label + ", worths", worths, x.all());
        int together = 0;
        for (int p = 0; p < hours.length; p++) {
            together += x.person(p, 2);
        }
        Check.due(label + ", hours", work, together);
        return rounds;
    }

    private static void pair() {
        WageHats x = Texts.townOf("hours 9; sort a brings 10 tires 0 mind 0 pride 0 need 1; hat h keeps 0 least 0 looks 0 even;"
                + "person p sort a; person q sort a; person r sort a; person s sort a; pair s q; pair p r;");
        int[][] due = {{3, 1, 0, 0, -1}, {0, 2, 0, 0, -1}};
        for (int k = 0; k < 2; k++) {
            for (int what = 0; what < 5; what++) {
                Check.due("pair " + k + " " + what, x.pair(k, what), due[k][what]);
            }
        }
        Check.due("pair 0 -1", x.pair(0, -1), -1);
        Check.due("pair 2 0", x.pair(2, 0), -1);
        Check.due("pair -1 0", x.pair(-1, 0), -1);
        x.move(3, 0);
        Check.due("one in a hat", x.pair(0, 3), 0);
        x.move(1, 0);
        Check.due("both in a hat", x.pair(0, 3), 1);
        x.put(3, 2);
        x.put(2, 3);
        x.run(2);
        Check.due("paid to s and q", x.pair(0, 2), 40);
        Check.due("paid to p and r", x.pair(1, 2), 60);
    }

    /** Three hours of p, five of q. */
    private static WageHats threeAndFive() {
        WageHats x = two("0", "0");
        x.put(0, 3);
        x.put(1, 5);
        return x;
    }

    private static void would() {
        WageHats x = threeAndFive();
        int[][] due = {{2109, 3109, 2109}, {2525, 1525, 2525}};
        for (int p = 0; p < 2; p++) {
            for (int place = -1; place < 2; place++) {
                Check.due("would " + p + " " + place, x.would(p, place), due[p][place + 1]);
            }
        }
        Check.due("would 0 2", x.would(0, 2), NOTHING);
        Check.due("would 0 -2", x.would(0, -2), NOTHING);
        Check.due("would 2 0", x.would(2, 0), NOTHING);
        Check.due("would -1 0", x.would(-1, 0), NOTHING);
        x.move(0, 1);
        Check.due("both in g: 2500 + floor(100 * 40 * 1 / 2) - 2475", x.would(1, 1), 2500 + 2000 - 2475);
        Check.due("is where it was", x.person(1, 1), 0);
    }

    private static void wish() {
        WageHats x = threeAndFive();
        Check.due("p is where it is best", x.wish(0), 0);
        Check.due("q wishes the first of alone and g", x.wish(1), -1);
        x.move(1, 1);
        Check.due("in g nothing is above that", x.wish(1), 1);
        Check.due("p: alone, h, g are 2109, 2109, 3109", x.wish(0), 1);
        x.move(1, 0);
        x.move(0, -1);
        Check.due("p wishes to h", x.wish(0), 0);
        Check.due("wish 2", x.wish(2), -2);
        Check.due("wish -1", x.wish(-1), -2);
    }

    private static void choose() {
        WageHats x = threeAndFive();
        Check.due("choose 0", x.choose(0), -1);
        Check.due("choose 61", x.choose(61), -1);
        Check.due("choose -5", x.choose(-5), -1);
        Check.due("not stable", x.stable(), 0);
        Check.due("none went", x.person(1, 1), 0);
        Check.due("not within 1", x.choose(1), -2);
        Check.due("q is alone", x.person(1, 1), -1);
        Check.due("p stays", x.person(0, 1), 0);
        Check.due("stable", x.stable(), 1);
        Check.due("choose 60", x.choose(60), 1);
        x.move(1, 0);
        Check.due("that one counted", x.choose(60), 2);
        x.put(0, 5);
        x.put(1, 3);
        x.move(1, 0);
        Check.due("p goes first, then q stays", x.choose(60), 2);
        Check.due("p alone", x.person(0, 1), -1);
        Check.due("q in h", x.person(1, 1), 0);
        chase();
    }

    /** q, that brings nothing, follows p into a hat; p goes away from it, alone, where nobody can follow. */
    private static void chase() {
        WageHats x = Texts.townOf("hours 5; sort a brings 10 tires 0 mind 0 pride 0 need 1; sort z brings 0 tires 0 mind 0 pride 0 need 1;"
                + "hat h keeps 0 least 0 looks 0 even; hat g keeps 0 least 0 looks 0 even;"
                + "person q sort z; person p sort a; in q h; in p h;");
        x.put(1, 5);
        Check.due("first p goes, alone", x.choose(1), -2);
        Check.due("p alone", x.person(1, 1), -1);
        Check.due("nobody follows there", x.choose(60), 1);
        x.move(1, 1);
        Check.due("q follows, p goes", x.choose(60), 2);
        Check.due("q in g", x.person(0, 1), 1);
        Check.due("p alone again", x.person(1, 1), -1);
    }

    private static void gap() {
        WageHats x = threeAndFive();
        Check.due("p wishes nothing", x.gap(0), 0);
        Check.due("q wishes 1000 more", x.gap(1), 1000);
        Check.due("gap 2", x.gap(2), -1);
        Check.due("gap -1", x.gap(-1), -1);
    }

    private static void rings() {
        WageHats x = threeAndFive();
        Check.due("q leaves first", x.rings(0, 0), 1);
        Check.due("then p", x.rings(0, 1), 0);
        Check.due("then none", x.rings(0, 2), -1);
        Check.due("nobody left", x.person(0, 1) + x.person(1, 1), 0);
        x.put(1, 3);
        Check.due("the first of like ones", x.rings(0, 0), 0);
        Check.due("and the other", x.rings(0, 1), 1);
        x.put(0, 5);
        x.put(1, 5);
        Check.due("alone is like, none leaves", x.rings(0, 0), -1);
        Check.due("of an empty hat", x.rings(1, 0), -1);
        WageHats one = Texts.townOf("hours 1; sort a brings 1 tires 0 mind 0 pride 0 need 1; hat h keeps 0 least 2 looks 1 even;"
                + "person p sort a; in p h;");
        one.put(0, 1);
        Check.due("by one hundredth", one.rings(0, 0), 0);
        Check.due("of no hat", x.rings(2, 0), -1);
        Check.due("of no hat below", x.rings(-1, 0), -1);
        Check.due("the -1st", x.rings(0, -1), -1);
        Check.due("the last int", x.rings(0, Integer.MAX_VALUE), -1);
    }

    private static void noTown() {
        WageHats x = new WageHats();
        Check.due("part of none", x.part(0, 0), NOTHING);
        Check.due("look of none", x.look(0), -1);
        Check.due("size of none", x.size(0, 0, 1, 0), NOTHING);
        Check.due("many of none", x.many(0, 0), -1);
        Check.due("ends 4 of none", x.ends(4), 1);
        Check.due("alike of none", x.alike(0), 0);
        Check.due("choose of none", x.choose(60), 1);
        Check.due("stable of none", x.stable(), 1);
    }
}
