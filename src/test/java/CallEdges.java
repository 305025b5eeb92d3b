import java.util.function.Consumer;

/** Promises 1 to 12 and what refuses in all the others: each edge of a call's arguments; what is refused leaves no trace. */
final class CallEdges {
    private static final int MIN = Integer.MIN_VALUE;
    private static final int MAX = Integer.MAX_VALUE;
    private static final int NOTHING = -1000000000;
    /** None of these is a person, hat, sort, pair or place of a town of three. */
    private static final int[] FAR = {MIN, MIN + 1, NOTHING, -256, -3, 12, 13, 255, 256, 65536, MAX - 1, MAX};

    private CallEdges() {
    }

    static void runAll() {
        newObject();
        lastCalls();
        feedToTheFull();
        feedRefused();
        feedBytes();
        end();
        endRefused();
        townGoes();
        townRefused();
        townAnew();
        townsByTurns();
        nothingOfLargerTowns();
        fault();
        has();
        letters();
        whoIsThere();
        person();
        hat();
        put();
        putOfNoHours();
        move();
        moveWithoutHats();
        keep();
        refusedLeavesNoTrace();
        farArguments();
        askedLeavesNoTrace();
    }

    /** No SORTS, HATS, PERSONS: what is asked of any is refused. */
    private static void newObject() {
        WageHats x = new WageHats();
        int[] has = {0, 0, 0, 0, 0, 40, 0, 0, 0};
        for (int what = 0; what < 9; what++) {
            Check.due("new has " + what, x.has(what), has[what]);
        }
        for (int k = -1; k <= 1; k++) {
            Check.due("new letter " + k, x.letter(0, k, 0) + x.letter(1, k, 0) + x.letter(2, k, 0), -3);
            Check.due("new person " + k, x.person(k, 0), -1);
            Check.due("new hat " + k, x.hat(k, 0), -1);
            Check.due("new put " + k, x.put(k, 0), -1);
            Check.due("new move " + k, x.move(k, -1), false);
            Check.due("new keep " + k, x.keep(k, 0), -1);
            Check.due("new worth " + k, x.worth(k, -1), NOTHING);
            Check.due("new part " + k, x.part(k, 0), NOTHING);
            Check.due("new look " + k, x.look(k), -1);
            Check.due("new size " + k, x.size(k, k, 1, 0), NOTHING);
            Check.due("new many " + k, x.many(k, k), -1);
            Check.due("new under " + k, x.under(k, 0, 0), NOTHING);
            Check.due("new pair " + k, x.pair(k, 0), -1);
            Check.due("new would " + k, x.would(k, -1), NOTHING);
            Check.due("new wish " + k, x.wish(k), -2);
            Check.due("new gap " + k, x.gap(k), -1);
            Check.due("new rings " + k, x.rings(k, 0), -1);
            Check.due("new drew " + k, x.drew(k), -1);
            Check.due("new said " + k, x.said(k, 0), false);
            Check.due("new octet " + k, x.octet(k), -1);
        }
        int[] ends = {0, 0, 0, 0, 1};
        for (int what = 0; what < 5; what++) {
            Check.due("new ends " + what, x.ends(what), ends[what]);
        }
        Check.due("new all", x.all() + x.proof() + x.alike(0) + x.alike(1) + x.less() + x.run(60), 0);
        Check.due("new rest, choose, stable", x.rest(1) * 100 + x.choose(1) * 10 + x.stable(), 111);
        Check.due("new fault", x.fault(0) * 10 + x.fault(1), -1);
    }

    /** An object is used for at most 512 calls: the 511th and the 512th still answer. */
    private static void lastCalls() {
        WageHats x = new WageHats();
        String text = "sort s brings 1 tires 1 mind 1 pride 1 need 1;person p sort s;";
        Texts.town(x, text);
        int calls = (text.length() + 19) / 20 + 2;
        int old = 0;
        while (calls < 510) {
            Check.due("call " + calls, x.put(0, calls % 41), old);
            old = calls % 41;
            calls++;
        }
        Check.due("call 511", x.run(60), 60 * old);
        Check.due("call 512", x.person(0, 8), 60 * old);
    }

    /** Twenty bytes: how many there are; NONE if there would be more than 1600. */
    private static void feedToTheFull() {
        WageHats x = new WageHats();
        for (int n = 20; n <= 1600; n += 20) {
            Check.due("fed " + n, x.feed(n, n, n, n, n), n);
        }
        Check.due("none behind 1600", x.feed(1, 1, 1, 1, 1), -1);
        Check.due("1600 are there", x.end(1600), true);
        int[] lengths = {1599, 1582, 1581};
        for (int n : lengths) {
            Check.due("cut to " + n, x.end(n), true);
            Check.due("none behind " + n, x.feed(1, 1, 1, 1, 1), -1);
            Check.due("still " + n, x.end(n + 1), false);
        }
        Check.due("cut to 1580", x.end(1580), true);
        Check.due("just full", x.feed(1, 1, 1, 1, 1), 1600);
        Check.due("cut to 1579", x.end(1579), true);
        Check.due("one less than full", x.feed(1, 1, 1, 1, 1), 1599);
        Check.due("cut to 0", x.end(0), true);
        Check.due("from none", x.feed(1, 1, 1, 1, 1), 20);
    }

    /** Doing nothing: the tape is as it was, its length too. */
    private static void feedRefused() {
        WageHats x = new WageHats();
        Texts.lay(x, Texts.bytesOf("hours 7;" + " ".repeat(1573)));
        Check.due("not twenty more", x.feed(0x3f3f3f3f, 0x3f3f3f3f, 0x3f3f3f3f, 0x3f3f3f3f, 0x3f3f3f3f), -1);
        Check.due("1581 stay", x.end(1582), false);
        Check.due("all of the text stays", x.town(), 1);
        Check.due("hours of the text", x.has(5), 7);
        Texts.lay(x, Texts.bytesOf("hours 8;" + " ".repeat(1592)));
        Check.due("none more", x.feed(0x3f3f3f3f, 0x3f3f3f3f, 0x3f3f3f3f, 0x3f3f3f3f, 0x3f3f3f3f), -1);
        Check.due("1600 of the text stay", x.town(), 1);
        Check.due("hours of 1600", x.has(5), 8);
    }

    /** Of each number the highest byte first, the first number first; bytes up to 255. */
    private static void feedBytes() {
        WageHats x = new WageHats();
        x.feed(0x686f7572, 0x7320310a, 0x3b686f75, 0x72732032, 0x3b202020);
        Check.due("two statements", x.town(), 2);
        Check.due("the second one's hours", x.has(5), 2);
        int[] high = {0xff202020, 0x20ff2020, 0x2020ff20, 0x202020ff, 0x80202020};
        for (int k = 0; k < high.length; k++) {
            x.feed(0x20202020, 0x20202020, 0x20202020, 0x20202020, high[k]);
            Check.due("a byte above 127", x.town(), -1);
            Check.due("its place", x.fault(1), 16 + k % 4);
        }
        Check.due("an image of 255", ImageTest.takes(Texts.townOf("sort s brings 1 tires 1 mind 1 pride 1 need 1;person p sort s;"),
                1, 0, 0, 255, 128, 0, 0), true);
    }

    /** The first n bytes alone; not so many, or below 0, is refused. */
    private static void end() {
        WageHats x = new WageHats();
        int[][] due = {{0, 1}, {1, 0}, {-1, 0}, {MIN, 0}, {MAX, 0}};
        for (int[] row : due) {
            Check.due("end " + row[0] + " of none", x.end(row[0]), row[1] == 1);
        }
        x.feed(0x686f7572, 0x7320353b, 0x686f7572, 0x7320363b, 0x3f3f3f3f);
        int[][] later = {{21, 0}, {MAX, 0}, {-1, 0}, {MIN, 0}, {20, 1}, {20, 1}, {19, 1}, {20, 0}, {16, 1}, {17, 0}};
        for (int[] row : later) {
            Check.due("end " + row[0], x.end(row[0]), row[1] == 1);
        }
        Check.due("sixteen bytes", x.town(), 2);
        Check.due("of the second statement", x.has(5), 6);
        x.feed(0x686f7572, 0x7320353b, 0x686f7572, 0x7320363b, 0x3f3f3f3f);
        x.end(8);
        x.feed(0x686f7572, 0x7320393b, 0x20202020, 0x20202020, 0x20202020);
        Check.due("behind the first eight", x.town(), 2);
        Check.due("of what came behind", x.has(5), 9);
        Check.due("the tape went", x.end(1), false);
        Check.due("none of it is left", x.end(0), true);
    }

    /** Doing nothing: a refused end leaves each byte. */
    private static void endRefused() {
        WageHats x = new WageHats();
        x.feed(0x686f7572, 0x7320353b, 0x20202020, 0x20202020, 0x2020203f);
        for (int n : new int[] {-1, 21, MIN, MAX}) {
            Check.due("end " + n, x.end(n), false);
        }
        Check.due("all twenty are read", x.town(), -1);
        Check.due("up to the last", x.fault(1), 19);
    }

    /** The tape goes, refused or not: by town and by on. */
    private static void townGoes() {
        WageHats x = new WageHats();
        String[] texts = {"hours 5;", "hours 61;", "?", "", " "};
        for (String text : texts) {
            Texts.lay(x, Texts.bytesOf(text));
            x.town();
            Check.due("it went: " + text, x.end(1), false);
            Check.due("anew behind: " + text, x.feed(0, 0, 0, 0, 0), 20);
            x.end(0);
        }
        Check.due("taken", ImageTest.takes(x, 0, 0, 5), true);
        Check.due("it went, taken", x.end(1), false);
        Check.due("refused", ImageTest.takes(x, 1, 0, 5), false);
        Check.due("it went, refused", x.end(1), false);
    }

    /** NONE with a FAULT (all else stays), of each of the five. */
    private static void townRefused() {
        String[] texts = {"hours 3;sort c brings 2 tires 2 mind 2 pride 2 need 2;?", "hours 3;hours 61;", "hat h keeps 0 least 0 looks 0 even;in a h;",
            "hours 3;works a 1 when all;", "sort a brings 1 tires 1 mind 1 pride 1 need 1;works a (((((((", "hours 2;".repeat(101)};
        for (String text : texts) {
            WageHats touched = Witness.lived();
            touched.end(0);
            Check.due("refused " + text, Texts.town(touched, text), -1);
            int kind = touched.fault(0);
            Check.due("has a fault " + text, kind > 0, true);
            WageHats due = Witness.lived();
            due.end(0);
            Texts.town(due, "?");
            Texts.town(touched, "?");
            Check.due("the fault is of the latest", touched.fault(1), 0);
            Witness.alike("refused " + text, touched, due);
        }
    }

    /** Without one HOURS, DRAWN, all PAID and LOST, WEEKS are 0, nothing was SAID; the seed stays. */
    private static void townAnew() {
        WageHats x = Witness.lived();
        Check.due("something was paid", x.person(0, 8) > 0, true);
        Check.due("something was lost", x.has(7) > 0, true);
        x.end(0);
        Texts.town(x, Witness.TOWN);
        WageHats due = Texts.townOf(Witness.TOWN);
        WageHats behind = Texts.townOf(Witness.TOWN);
        x.seed(5);
        due.seed(5);
        due.image();
        x.image();
        Witness.alike("anew", x, due);
        int[] chances = {7, 8};
        for (int chance : chances) {
            x.seed(chance);
            Texts.town(x, Witness.TOWN);
            behind.seed(chance);
            Texts.town(behind, "");
            Texts.town(behind, Witness.TOWN);
            x.run(1);
            behind.run(1);
            for (int p = 0; p < 3; p++) {
                Check.due("the seed stays: slip of " + p, x.drew(p), behind.drew(p));
            }
        }
        Check.due("in a new town less is none", x.said(0, 9), true);
        Check.due("less", x.less(), 1);
        Texts.town(x, Witness.TOWN);
        Check.due("nothing was said", x.less(), 0);
    }

    /** A third town has nothing of the first two. */
    private static void townsByTurns() {
        WageHats x = new WageHats();
        String[] texts = {Witness.TOWN, "hours 3;", Witness.TOWN, "", Witness.TOWN, "sort c brings 1 tires 1 mind 1 pride 1 need 1;", "", ""};
        int[][] due = {{2, 2, 3, 1, 2, 9, 0, 0, 0}, {0, 0, 0, 0, 0, 3, 0, 0, 0}, {2, 2, 3, 1, 2, 9, 0, 0, 0}, {0, 0, 0, 0, 0, 40, 0, 0, 0},
            {2, 2, 3, 1, 2, 9, 0, 0, 0}, {1, 0, 0, 0, 0, 40, 0, 0, 0}, {0, 0, 0, 0, 0, 40, 0, 0, 0}, {0, 0, 0, 0, 0, 40, 0, 0, 0}};
        for (int i = 0; i < texts.length; i++) {
            Texts.town(x, texts[i]);
            for (int what = 0; what < 9; what++) {
                Check.due("town " + i + " has " + what, x.has(what), due[i][what]);
            }
            x.put(0, 9);
            x.run(1);
        }
        String alone = "sort a brings 1 tires 1 mind 1 pride 1 need 1;person p sort a;person q sort a;";
        for (int i = 0; i < 3; i++) {
            Texts.town(x, Witness.TOWN);
            Texts.town(x, alone + "pair p q;");
            Texts.town(x, Witness.TOWN);
            Texts.town(x, alone);
            Check.due("no mate is left", x.person(0, 3) + x.person(1, 3), -2);
            Check.due("no hat is left", x.person(0, 1) + x.person(1, 1), -2);
            x.run(1);
            Check.due("no rule is left", x.person(0, 2) + x.person(1, 2), 0);
        }
    }

    /** Where twelve were, all in one hat and in pairs, two are as in a new object. */
    private static void nothingOfLargerTowns() {
        StringBuilder large = new StringBuilder("hours 60;sort a brings 99 tires 3 mind 100 pride 9 need 9;hat f keeps 0 least 60 looks 100 before;"
                + "hat g keeps 0 least 60 looks 100 before;hat h keeps 0 least 60 looks 100 before;hat i keeps 0 least 60 looks 100 before;");
        for (char c = 'a'; c <= 'l'; c++) {
            large.append("person p").append(c).append(" sort a;in p").append(c).append(" f;");
        }
        large.append("pair pa pc;pair pb pd;pair pl pk;works a 60 when all;");
        String small = "hours 9;sort a brings 7 tires 30 mind 40 pride 5 need 2;hat f keeps 20 least 3 looks 60 after;person p sort a;person q sort a;in p f;in q f;";
        for (int turns = 1; turns <= 2; turns++) {
            WageHats x = new WageHats();
            for (int turn = 0; turn < 2; turn++) {
                Texts.town(x, large.toString());
                for (int p = 0; p < 12; p++) {
                    x.said(p, 60);
                }
                x.run(2);
                x.part(0, 0);
            }
            x.size(0, 0, 20, 0);
            x.image();
            for (int turn = 0; turn < turns; turn++) {
                Texts.town(x, small);
            }
            WageHats due = Texts.townOf(small);
            x.seed(3);
            due.seed(3);
            x.image();
            due.image();
            asAsked("small town " + turns, x, due);
            Witness.alike("small town " + turns, x, due);
        }
    }

    private static void asAsked(String label, WageHats x, WageHats due) {
        for (int what = 0; what < 2; what++) {
            Check.due(label + ": part " + what, x.part(0, what), due.part(0, what));
            Check.due(label + ": size " + what, x.size(0, 0, 3, what), due.size(0, 0, 3, what));
            Check.due(label + ": under " + what, x.under(0, 1, what), due.under(0, 1, what));
            Check.due(label + ": alike " + what, x.alike(what), due.alike(what));
            Check.due(label + ": rings " + what, x.rings(0, what), due.rings(0, what));
            Check.due(label + ": wish " + what, x.wish(what), due.wish(what));
            Check.due(label + ": gap " + what, x.gap(what), due.gap(what));
        }
        for (int what = 0; what < 5; what++) {
            Check.due(label + ": ends " + what, x.ends(what), due.ends(what));
        }
        Check.due(label + ": look", x.look(0), due.look(0));
        Check.due(label + ": all", x.all(), due.all());
        Check.due(label + ": proof", x.proof(), due.proof());
        Check.due(label + ": stable", x.stable(), due.stable());
    }

    /** 0 without, and ahead of any; its place NONE without; NONE for another what. */
    private static void fault() {
        WageHats x = new WageHats();
        faults(x, "ahead of any", 0, -1);
        Texts.town(x, "hours 61;");
        faults(x, "of a number", 2, 6);
        Texts.image(x, 1, 2, 3);
        x.put(0, 1);
        faults(x, "still", 2, 6);
        Texts.town(x, "hours 60;");
        faults(x, "without", 0, -1);
        Texts.town(x, "?");
        faults(x, "at 0", 1, 0);
        Texts.town(x, "");
        faults(x, "of nothing", 0, -1);
    }

    private static void faults(WageHats x, String label, int kind, int place) {
        Check.due(label + ": fault 0", x.fault(0), kind);
        Check.due(label + ": fault 1", x.fault(1), place);
        for (int what : new int[] {MIN, -2, -1, 2, 3, 256, MAX}) {
            Check.due(label + ": fault " + what, x.fault(what), -1);
        }
    }

    /** NONE for others. */
    private static void has() {
        WageHats x = Texts.townOf(Witness.TOWN);
        int[] due = {2, 2, 3, 1, 2, 9, 0, 0, 0};
        for (int what = 0; what < 9; what++) {
            Check.due("has " + what, x.has(what), due[what]);
        }
        for (int what : new int[] {MIN, -2, -1, 9, 10, 256, MAX}) {
            Check.due("has " + what, x.has(what), -1);
        }
        for (int alone = 1; alone <= 3; alone++) {
            x.move(alone - 1, -1);
            Check.due("alone are " + alone, x.has(8), alone);
        }
        x.run(2);
        Check.due("weeks", x.has(6), 2);
    }

    /** Letter k (0 .. 5): 1 .. 26; 0 behind it; NONE when there is none such. */
    private static void letters() {
        WageHats x = Texts.townOf("sort a brings 1 tires 1 mind 1 pride 1 need 1;sort zzzzzz brings 1 tires 1 mind 1 pride 1 need 1;"
                + "hat bcdefg keeps 0 least 0 looks 0 even;person hi sort a;person jklmn sort a;");
        String[][] names = {{"a", "zzzzzz"}, {"bcdefg"}, {"hi", "jklmn"}};
        for (int kind = 0; kind < 3; kind++) {
            for (int which = 0; which < names[kind].length; which++) {
                String name = names[kind][which];
                for (int k = 0; k < 6; k++) {
                    Check.due("letter " + k + " of " + name, x.letter(kind, which, k), k < name.length() ? name.charAt(k) - 96 : 0);
                }
                for (int k : new int[] {MIN, -1, 6, 7, MAX}) {
                    Check.due("letter " + k + " of " + name, x.letter(kind, which, k), -1);
                }
            }
            for (int which : new int[] {MIN, -1, names[kind].length, MAX}) {
                Check.due("letter of none: " + kind + " " + which, x.letter(kind, which, 0), -1);
            }
        }
        for (int kind : new int[] {MIN, -1, 3, 4, MAX}) {
            Check.due("letter of no kind " + kind, x.letter(kind, 0, 0), -1);
        }
    }

    /** NONE when there is none such: the last there is, and one behind it. */
    private static void whoIsThere() {
        WageHats x = Texts.townOf(Witness.TOWN);
        for (int what = 0; what < 10; what++) {
            Check.due("person -1: " + what, x.person(-1, what), -1);
            Check.due("person 3: " + what, x.person(3, what), -1);
            Check.due("person 11: " + what, x.person(11, what), -1);
            Check.due("hat -1: " + what, x.hat(-1, what), -1);
            Check.due("hat 2: " + what, x.hat(2, what), -1);
            Check.due("hat 3: " + what, x.hat(3, what), -1);
            Check.due("pair -1: " + what, x.pair(-1, what), -1);
            Check.due("pair 1: " + what, x.pair(1, what), -1);
            Check.due("pair 5: " + what, x.pair(5, what), -1);
        }
        for (int what : new int[] {MIN, -2, -1, 10, 11, 256, MAX}) {
            Check.due("person what " + what, x.person(0, what), -1);
        }
        for (int what : new int[] {MIN, -2, -1, 8, 9, 256, MAX}) {
            Check.due("hat what " + what, x.hat(0, what), -1);
        }
        for (int what : new int[] {MIN, -2, -1, 4, 5, 256, MAX}) {
            Check.due("pair what " + what, x.pair(0, what), -1);
        }
    }

    /** Its HAT (NONE alone), who its pair is with (NONE without), its SLIP (0 alone). */
    private static void person() {
        WageHats x = Texts.townOf(Witness.TOWN);
        x.put(0, 9);
        int[] inHat = {0, 0, 9, 2, 63, 50, 13, 0, 0};
        for (int what = 0; what < 9; what++) {
            Check.due("in a hat " + what, x.person(0, what), inHat[what]);
        }
        x.move(0, -1);
        int[] alone = {0, -1, 9, 2, 63, 0, 63, 0, 0, 9};
        for (int what = 0; what < 10; what++) {
            Check.due("alone " + what, x.person(0, what), alone[what]);
        }
        int[] idle = {1, 0, 0, -1, 0, 0, 0, 0, 0};
        for (int what = 0; what < 9; what++) {
            Check.due("idle " + what, x.person(1, what), idle[what]);
        }
    }

    /** SUM, MEAN, SPREAD of a HAT with none, one and two; the others are as told. */
    private static void hat() {
        WageHats x = Texts.townOf(Witness.TOWN);
        x.put(0, 1);
        int[] two = {20, 3, 60, 1, 2, 5, 250, 250};
        int[] one = {20, 3, 60, 1, 1, 5, 500, 0};
        int[] none = {20, 3, 60, 1, 0, 0, 0, 0};
        for (int what = 0; what < 8; what++) {
            Check.due("of two " + what, x.hat(0, what), two[what]);
        }
        x.move(1, -1);
        for (int what = 0; what < 8; what++) {
            Check.due("of one " + what, x.hat(0, what), one[what]);
        }
        x.move(0, 1);
        for (int what = 0; what < 8; what++) {
            Check.due("of none " + what, x.hat(0, what), none[what]);
        }
    }

    /** HOURS from 0 to the most one may work. */
    private static void put() {
        WageHats x = Texts.townOf(Witness.TOWN);
        int[][] due = {{0, 0, 0}, {0, 9, 0}, {0, 10, -1}, {0, -1, -1}, {0, -2, -1}, {0, MIN, -1}, {0, MAX, -1}, {0, 8, 9}, {0, 0, 8}, {2, 1, 0},
            {3, 1, -1}, {-1, 1, -1}, {11, 1, -1}, {MIN, 1, -1}, {MAX, 1, -1}, {2, 2, 1}, {0, 5, 0}};
        for (int[] row : due) {
            Check.due("put " + row[0] + " " + row[1], x.put(row[0], row[1]), row[2]);
        }
        Check.due("hours of 0", x.person(0, 2), 5);
        Check.due("hours of 1", x.person(1, 2), 0);
        Check.due("hours of 2", x.person(2, 2), 2);
        x.put(0, 10);
        Check.due("refused hours do not count", x.person(0, 2), 5);
    }

    /** Where none may work, and where one may 60 hours. */
    private static void putOfNoHours() {
        String one = "sort a brings 1 tires 1 mind 1 pride 1 need 1;person p sort a;";
        WageHats x = Texts.townOf("hours 0;" + one);
        Check.due("0 of 0", x.put(0, 0), 0);
        Check.due("1 of 0", x.put(0, 1), -1);
        x = Texts.townOf("hours 60;" + one);
        Check.due("60 of 60", x.put(0, 60), 0);
        Check.due("61 of 60", x.put(0, 61), -1);
        Check.due("60 stay", x.put(0, 59), 60);
        x = Texts.townOf(one);
        Check.due("40 of 40", x.put(0, 40), 0);
        Check.due("41 of 40", x.put(0, 41), -1);
    }

    /** To a HAT, or alone (NONE); false when something can't be, or it is there. */
    private static void move() {
        WageHats x = Texts.townOf(Witness.TOWN);
        int[][] due = {{0, 0, 0}, {0, 1, 1}, {0, 1, 0}, {0, 2, 0}, {0, 3, 0}, {0, -2, 0}, {0, MIN, 0}, {0, MAX, 0}, {0, -1, 1}, {0, -1, 0}, {0, 0, 1},
            {3, 0, 0}, {3, -1, 0}, {-1, 0, 0}, {-1, -1, 0}, {MIN, 0, 0}, {MAX, 0, 0}, {2, 0, 1}};
        for (int[] row : due) {
            Check.due("move " + row[0] + " " + row[1], x.move(row[0], row[1]), row[2] == 1);
        }
        Check.due("hats", x.person(0, 1) * 100 + x.person(1, 1) * 10 + x.person(2, 1), 0);
        Check.due("three are there", x.hat(0, 4), 3);
    }

    private static void moveWithoutHats() {
        WageHats x = Texts.townOf("sort a brings 1 tires 1 mind 1 pride 1 need 1;person p sort a;");
        Check.due("to no hat", x.move(0, 0), false);
        Check.due("alone already", x.move(0, -1), false);
        Check.due("would be in no hat", x.would(0, 0), NOTHING);
        Check.due("wishes to be alone", x.wish(0), -1);
        Check.due("nothing is better", x.gap(0), 0);
        Check.due("stable", x.stable(), 1);
    }

    /** keeps 0 .. 100. */
    private static void keep() {
        WageHats x = Texts.townOf(Witness.TOWN);
        int[][] due = {{0, 0, 20}, {0, 100, 0}, {0, 101, -1}, {0, -1, -1}, {0, MIN, -1}, {0, MAX, -1}, {0, 99, 100}, {0, 1, 99}, {1, 50, 10}, {2, 50, -1},
            {-1, 50, -1}, {MIN, 50, -1}, {MAX, 50, -1}, {3, 50, -1}};
        for (int[] row : due) {
            Check.due("keep " + row[0] + " " + row[1], x.keep(row[0], row[1]), row[2]);
        }
        Check.due("keeps of 0", x.hat(0, 0), 1);
        Check.due("keeps of 1", x.hat(1, 0), 50);
    }

    private static void none(String label, Consumer<WageHats> call) {
        Witness.noTrace(label, call);
    }

    /** What is refused changes nothing that a later call shows. */
    private static void refusedLeavesNoTrace() {
        none("end 9", x -> Check.due("end 9", x.end(9), false));
        none("end -1", x -> Check.due("end -1", x.end(-1), false));
        none("put 0 10", x -> Check.due("put 0 10", x.put(0, 10), -1));
        none("put 0 -1", x -> Check.due("put 0 -1", x.put(0, -1), -1));
        none("put 3 1", x -> Check.due("put 3 1", x.put(3, 1), -1));
        none("put -1 1", x -> Check.due("put -1 1", x.put(-1, 1), -1));
        none("move 0 0", x -> Check.due("move 0 0", x.move(0, 0), false));
        none("move 0 2", x -> Check.due("move 0 2", x.move(0, 2), false));
        none("move 0 -2", x -> Check.due("move 0 -2", x.move(0, -2), false));
        none("move 3 0", x -> Check.due("move 3 0", x.move(3, 0), false));
        none("move -1 0", x -> Check.due("move -1 0", x.move(-1, 0), false));
        none("keep 0 101", x -> Check.due("keep 0 101", x.keep(0, 101), -1));
        none("keep 0 -1", x -> Check.due("keep 0 -1", x.keep(0, -1), -1));
        none("keep 2 1", x -> Check.due("keep 2 1", x.keep(2, 1), -1));
        none("rest 0", x -> Check.due("rest 0", x.rest(0), -1));
        none("rest 61", x -> Check.due("rest 61", x.rest(61), -1));
        none("choose 0", x -> Check.due("choose 0", x.choose(0), -1));
        none("choose 61", x -> Check.due("choose 61", x.choose(61), -1));
        none("seed -1", x -> Check.due("seed -1", x.seed(-1), false));
        none("seed min", x -> Check.due("seed min", x.seed(MIN), false));
        none("run 0", x -> Check.due("run 0", x.run(0), -1));
        none("run 61", x -> Check.due("run 61", x.run(61), -1));
        none("run -1", x -> Check.due("run -1", x.run(-1), -1));
        none("said 0 10", x -> Check.due("said 0 10", x.said(0, 10), false));
        none("said 0 -1", x -> Check.due("said 0 -1", x.said(0, -1), false));
        none("said 3 1", x -> Check.due("said 3 1", x.said(3, 1), false));
        none("said -1 1", x -> Check.due("said -1 1", x.said(-1, 1), false));
    }

    /** Arguments far off are refused, and leave no trace either. */
    private static void farArguments() {
        for (int far : FAR) {
            none("far " + far, x -> {
                Check.due("put " + far, x.put(far, 1), -1);
                Check.due("put hours " + far, x.put(0, far), -1);
                Check.due("move " + far, x.move(far, 1), false);
                Check.due("move to " + far, x.move(0, far), false);
                Check.due("keep " + far, x.keep(far, 1), -1);
                Check.due("said " + far, x.said(far, 1), false);
                Check.due("said hours " + far, x.said(0, far), false);
                Check.due("worth " + far, x.worth(far, -1), NOTHING);
                Check.due("worth hours " + far, x.worth(0, far), NOTHING);
                Check.due("part " + far, x.part(far, 0), NOTHING);
                Check.due("part what " + far, x.part(0, far), NOTHING);
                Check.due("look " + far, x.look(far), -1);
                Check.due("size sort " + far, x.size(far, 0, 1, 0), NOTHING);
                Check.due("size hat " + far, x.size(0, far, 1, 0), NOTHING);
                Check.due("size what " + far, x.size(0, 0, 1, far), NOTHING);
                Check.due("many sort " + far, x.many(far, 0), -1);
                Check.due("many hat " + far, x.many(0, far), -1);
                Check.due("under " + far, x.under(far, 0, 0), NOTHING);
                Check.due("under kind " + far, x.under(0, far, 0), NOTHING);
                Check.due("under what " + far, x.under(0, 0, far), NOTHING);
                Check.due("ends " + far, x.ends(far), NOTHING);
                Check.due("alike " + far, x.alike(far), NOTHING);
                Check.due("pair " + far, x.pair(far, 0), -1);
                Check.due("pair what " + far, x.pair(0, far), -1);
                Check.due("would " + far, x.would(far, 0), NOTHING);
                Check.due("would in " + far, x.would(0, far), NOTHING);
                Check.due("wish " + far, x.wish(far), -2);
                Check.due("gap " + far, x.gap(far), -1);
                Check.due("rings " + far, x.rings(far, 0), -1);
                Check.due("rings k " + far, x.rings(0, far), -1);
                Check.due("drew " + far, x.drew(far), -1);
                Check.due("octet " + far, x.octet(far) >= 0, far == 12 || far == 13);
            });
        }
        for (int far : new int[] {MIN, -7, 0, 61, 256, MAX}) {
            none("far n " + far, x -> {
                Check.due("rest " + far, x.rest(far), -1);
                Check.due("choose " + far, x.choose(far), -1);
                Check.due("run " + far, x.run(far), -1);
                Check.due("size n " + far, x.size(0, 0, far, 0), NOTHING);
            });
        }
    }

    /** What is only asked changes nothing. */
    private static void askedLeavesNoTrace() {
        none("worth, all, proof", x -> {
            x.worth(0, 9);
            x.worth(1, -1);
            x.all();
            x.proof();
        });
        none("part", x -> x.part(0, 0));
        none("look", x -> x.look(0));
        none("size", x -> x.size(1, 0, 20, 1));
        none("many", x -> x.many(0, 1));
        none("under", x -> x.under(0, 3, 0));
        for (int what = 0; what < 5; what++) {
            int asked = what;
            none("ends " + what, x -> x.ends(asked));
        }
        none("alike", x -> x.alike(0));
        none("would, wish, stable, gap", x -> {
            x.would(0, 1);
            x.would(1, -1);
            x.wish(0);
            x.stable();
            x.gap(1);
        });
        none("rings", x -> x.rings(0, 1));
        none("drew, less, octet", x -> {
            x.drew(0);
            x.less();
            x.octet(0);
        });
    }
}
