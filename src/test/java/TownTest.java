/** Promises 1 to 12: the tape, the town and what it has. */
final class TownTest {
    static final String SMITHS = "hours 10; sort smith brings 10 tires 50 mind 50 pride 7 need 1;"
            + "sort boy brings 4 tires 20 mind 0 pride 10 need 3;"
            + "hat red keeps 0 least 1 looks 2 after; hat blue keeps 33 least 5 looks 50 share;"
            + "person ann sort smith; person bobbie sort smith; person cat sort boy;"
            + "in ann red; in bobbie red; in cat blue; pair bobbie ann; works smith 8 when all;";

    private TownTest() {
    }

    static void runAll() {
        newObject();
        feedAndEnd();
        tapeGoes();
        whatATownHas();
        refusedTown();
        newTown();
        letters();
        persons();
        hats();
        put();
        move();
        keep();
    }

    private static void newObject() {
        WageHats x = new WageHats();
        int[] has = {0, 0, 0, 0, 0, 40, 0, 0, 0, -1};
        for (int what = 0; what < has.length; what++) {
            Check.due("new has " + what, x.has(what), has[what]);
        }
        Check.due("has -1", x.has(-1), -1);
        Check.due("new fault 0", x.fault(0), 0);
        Check.due("new fault 1", x.fault(1), -1);
        Check.due("fault 2", x.fault(2), -1);
        Check.due("fault -1", x.fault(-1), -1);
        Check.due("new person", x.person(0, 0), -1);
        Check.due("new hat", x.hat(0, 0), -1);
        Check.due("new town", x.town(), 0);
    }

    private static void feedAndEnd() {
        WageHats x = new WageHats();
        Check.due("end 0 of none", x.end(0), true);
        Check.due("end 1 of none", x.end(1), false);
        Check.due("end -1 of none", x.end(-1), false);
        for (int i = 1; i <= 80; i++) {
            Check.due("feed " + i, x.feed(-1, Integer.MIN_VALUE, 0, 1, Integer.MAX_VALUE), 20 * i);
        }
        Check.due("feed 81", x.feed(0, 0, 0, 0, 0), -1);
        Check.due("end 1601", x.end(1601), false);
        Check.due("end 1600", x.end(1600), true);
        Check.due("end 1581", x.end(1581), true);
        Check.due("feed behind 1581", x.feed(0, 0, 0, 0, 0), -1);
        Check.due("end 1582", x.end(1582), false);
        Check.due("end 1580", x.end(1580), true);
        Check.due("feed behind 1580", x.feed(0, 0, 0, 0, 0), 1600);
        Check.due("end -1", x.end(-1), false);
        Check.due("end min", x.end(Integer.MIN_VALUE), false);
        Check.due("end max", x.end(Integer.MAX_VALUE), false);
        Check.due("end 0", x.end(0), true);
        Check.due("end 1", x.end(1), false);
        Check.due("feed again", x.feed(0, 0, 0, 0, 0), 20);
    }

    /** hours 7; in four pieces, the highest byte of each number first. */
    private static void tapeGoes() {
        WageHats x = new WageHats();
        x.feed(0x686f7572, 0x7320373b, 0x20202020, 0x0a0a0a0a, 0x20202020);
        Check.due("hours 7", x.town(), 1);
        Check.due("has 5", x.has(5), 7);
        Check.due("tape went", x.end(1), false);
        Check.due("town of nothing", x.town(), 0);
        Check.due("has 5 anew", x.has(5), 40);
        x.feed(0x686f7572, 0x7320373b, 0x20202020, 0x0a0a0a0a, 0x2020203b);
        Check.due("refused", x.town(), -1);
        Check.due("place of all on the tape", x.fault(1), 19);
        Check.due("tape went, refused", x.end(1), false);
        x.feed(0x686f7572, 0x73203031, 0x3b202020, 0x20202020, 0x20202020);
        x.end(8);
        x.feed(0x323b2020, 0x20202020, 0x20202020, 0x20202020, 0x20202020);
        Check.due("hours 0 1 2", x.town(), 1);
        Check.due("digits side by side", x.has(5), 12);
    }

    private static void whatATownHas() {
        WageHats x = new WageHats();
        Check.due("smiths", Texts.town(x, SMITHS), 13);
        int[] has = {2, 2, 3, 1, 1, 10, 0, 0, 0, -1};
        for (int what = 0; what < has.length; what++) {
            Check.due("smiths has " + what, x.has(what), has[what]);
        }
        x.move(1, -1);
        Check.due("one alone", x.has(8), 1);
        x = Texts.townOf("hours 5; hours 9;");
        Check.due("the last hours count", x.has(5), 9);
        x = Texts.townOf(SMITHS + "in ann blue; in ann red; in ann blue;");
        Check.due("the last in counts", x.person(0, 1), 1);
        x = Texts.townOf(SMITHS + "person dan sort boy;");
        Check.due("alone without in", x.person(3, 1), -1);
        Check.due("has 8", x.has(8), 1);
    }

    private static void refusedTown() {
        WageHats x = Texts.townOf(SMITHS);
        x.put(0, 3);
        x.said(0, 4);
        x.run(2);
        int paid = x.person(0, 8);
        Check.due("paid", paid > 0, true);
        Check.due("refused", Texts.town(x, "hours 9; sort a brings 1 tires 1 mind 1 pride 1 need 1; hat; "), -1);
        Check.due("has 0", x.has(0), 2);
        Check.due("has 5", x.has(5), 10);
        Check.due("has 6", x.has(6), 2);
        Check.due("paid stays", x.person(0, 8), paid);
        Check.due("letter stays", x.letter(0, 0, 0), 19);
        Check.due("fault 0", x.fault(0), 1);
        Check.due("fault 1", x.fault(1), 59);
        x.put(0, 3);
        Check.due("said stays", x.less(), 1);
        x.run(1);
        Check.due("rules stay", x.person(0, 2), 8);
        Texts.town(x, "");
        Check.due("fault 0 goes", x.fault(0), 0);
        Check.due("fault 1 goes", x.fault(1), -1);
    }

    private static void newTown() {
        WageHats x = Texts.townOf(SMITHS.replace("looks 2", "looks 100").replace("least 1", "least 10"));
        x.seed(77);
        x.put(2, 4);
        x.said(2, 5);
        x.said(0, 10);
        x.run(3);
        Check.due("lost something", x.has(7) > 0, true);
        Check.due("anew", Texts.town(x, SMITHS), 13);
        Check.due("weeks anew", x.has(6), 0);
        Check.due("lost anew", x.has(7), 0);
        for (int p = 0; p < 3; p++) {
            Check.due("hours anew " + p, x.person(p, 2), 0);
            Check.due("drawn anew " + p, x.person(p, 7), 0);
            Check.due("paid anew " + p, x.person(p, 8), 0);
            Check.due("drew anew " + p, x.drew(p), -1);
        }
        Check.due("nothing said", x.less(), 0);
        seedStays();
    }

    private static void seedStays() {
        String four = "hours 9; sort a brings 5 tires 1 mind 0 pride 0 need 1; hat f keeps 0 least 0 looks 0 before;"
                + "person p sort a; person q sort a; person r sort a; person s sort a; in p f; in q f; in r f; in s f;";
        WageHats once = Texts.townOf(four);
        WageHats twice = Texts.townOf(four);
        once.seed(12345);
        twice.seed(12345);
        twice.run(1);
        once.run(1);
        Texts.town(twice, four);
        Texts.town(once, "hours 1000;");
        for (int week = 0; week < 6; week++) {
            once.run(1);
            twice.run(1);
            for (int p = 0; p < 4; p++) {
                Check.due("seed stays " + week + " " + p, twice.drew(p), once.drew(p));
            }
        }
    }

    private static void letters() {
        WageHats x = Texts.townOf(SMITHS + "sort azbycx brings 1 tires 1 mind 1 pride 1 need 1;");
        String[][] names = {{"smith", "boy", "azbycx"}, {"red", "blue"}, {"ann", "bobbie", "cat"}};
        for (int kind = -1; kind <= 3; kind++) {
            for (int which = -1; which <= 3; which++) {
                for (int k = -1; k <= 6; k++) {
                    boolean none = kind < 0 || kind > 2 || which < 0 || which >= names[kind].length || k < 0 || k > 5;
                    int due = none ? -1 : k < names[kind][which].length() ? names[kind][which].charAt(k) - 96 : 0;
                    Check.due("letter " + kind + " " + which + " " + k, x.letter(kind, which, k), due);
                }
            }
        }
    }

    /** 3 hours of a smith in red, 2 of a boy in blue, that keeps 33: floor(8 * 67 / 100) is 5. */
    private static void persons() {
        WageHats x = Texts.townOf(SMITHS);
        x.put(0, 3);
        x.put(2, 2);
        int[][] due = {{0, 0, 3, 1, 30, 30, 0, 0, 0}, {0, 0, 0, 0, 0, 0, 0, 0, 0}, {1, 1, 2, -1, 8, 5, 3, 0, 0}};
        for (int p = 0; p < 3; p++) {
            for (int what = 0; what < 9; what++) {
                Check.due("person " + p + " " + what, x.person(p, what), due[p][what]);
            }
        }
        Check.due("person 0 10", x.person(0, 10), -1);
        Check.due("person 0 -1", x.person(0, -1), -1);
        Check.due("person 3 0", x.person(3, 0), -1);
        Check.due("person -1 0", x.person(-1, 0), -1);
        x.move(2, -1);
        Check.due("alone: hat", x.person(2, 1), -1);
        Check.due("alone: slip", x.person(2, 5), 0);
        Check.due("alone: kept", x.person(2, 6), 8);
        Check.due("alone: best hours, 400 h - 20 h h", x.person(2, 9), 10);
        x = Texts.townOf("sort a brings 10 tires 50 mind 0 pride 0 need 1;person p sort a;");
        Check.due("1000 h - 50 h h", x.person(0, 9), 10);
        x = Texts.townOf("sort a brings 10 tires 40 mind 0 pride 0 need 1;person p sort a;");
        Check.due("the least of like ones: 12 and 13", x.person(0, 9), 12);
        x = Texts.townOf("sort a brings 0 tires 0 mind 0 pride 0 need 1;person p sort a;");
        Check.due("the least of all like", x.person(0, 9), 0);
        x = Texts.townOf("hours 0;sort a brings 9 tires 0 mind 0 pride 0 need 1;person p sort a;");
        Check.due("none may be worked", x.person(0, 9), 0);
    }

    private static void hats() {
        WageHats x = Texts.townOf(SMITHS);
        x.put(0, 3);
        x.put(1, 2);
        x.put(2, 2);
        int[][] due = {{0, 1, 2, 0, 2, 50, 2500, 500, -1}, {33, 5, 50, 3, 1, 5, 500, 0, -1}};
        for (int h = 0; h < 2; h++) {
            for (int what = 0; what < 9; what++) {
                Check.due("hat " + h + " " + what, x.hat(h, what), due[h][what]);
            }
        }
        Check.due("hat 0 -1", x.hat(0, -1), -1);
        Check.due("hat 2 0", x.hat(2, 0), -1);
        Check.due("hat -1 0", x.hat(-1, 0), -1);
        x.move(2, -1);
        Check.due("empty: persons", x.hat(1, 4), 0);
        Check.due("empty: sum", x.hat(1, 5), 0);
        Check.due("empty: mean", x.hat(1, 6), 0);
        Check.due("empty: spread", x.hat(1, 7), 0);
        x.move(2, 0);
        Check.due("three: sum", x.hat(0, 5), 58);
        Check.due("three: mean", x.hat(0, 6), 1933);
        Check.due("three: spread, 32 + 2 + 34 over 9", x.hat(0, 7), 755);
        x = Texts.townOf("hat a keeps 0 least 0 looks 0 after;hat b keeps 0 least 0 looks 0 before;"
                + "hat c keeps 0 least 0 looks 0 even;hat d keeps 0 least 0 looks 0 share;");
        for (int h = 0; h < 4; h++) {
            Check.due("kind " + h, x.hat(h, 3), h);
        }
    }

    private static void put() {
        WageHats x = Texts.townOf(SMITHS);
        Check.due("put 0 10", x.put(0, 10), 0);
        Check.due("put 0 11", x.put(0, 11), -1);
        Check.due("put 0 -1", x.put(0, -1), -1);
        Check.due("put 0 min", x.put(0, Integer.MIN_VALUE), -1);
        Check.due("put 3 1", x.put(3, 1), -1);
        Check.due("put -1 1", x.put(-1, 1), -1);
        Check.due("put 0 0", x.put(0, 0), 10);
        Check.due("put 0 4", x.put(0, 4), 0);
        Check.due("put 0 4 again", x.put(0, 4), 4);
        Check.due("others stay", x.person(1, 2), 0);
    }

    private static void move() {
        WageHats x = Texts.townOf(SMITHS);
        Check.due("is there", x.move(0, 0), false);
        Check.due("goes", x.move(0, 1), true);
        Check.due("went", x.person(0, 1), 1);
        Check.due("no such hat", x.move(0, 2), false);
        Check.due("no such place", x.move(0, -2), false);
        Check.due("no such person", x.move(3, 0), false);
        Check.due("no such person below", x.move(-1, 0), false);
        Check.due("stays", x.person(0, 1), 1);
        Check.due("alone", x.move(0, -1), true);
        Check.due("is alone", x.move(0, -1), false);
        Check.due("alone told", x.person(0, 1), -1);
        Check.due("its pair stays", x.person(0, 3), 1);
    }

    private static void keep() {
        WageHats x = Texts.townOf(SMITHS);
        Check.due("keep 1 100", x.keep(1, 100), 33);
        Check.due("keep 1 101", x.keep(1, 101), -1);
        Check.due("keep 1 -1", x.keep(1, -1), -1);
        Check.due("keep 2 1", x.keep(2, 1), -1);
        Check.due("keep -1 1", x.keep(-1, 1), -1);
        x.put(2, 5);
        Check.due("all kept", x.person(2, 6), 20);
        Check.due("keep 1 0", x.keep(1, 0), 100);
        Check.due("none kept", x.person(2, 6), 0);
        Check.due("told", x.hat(1, 0), 0);
    }
}
