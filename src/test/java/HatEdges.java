/** Terms III and promises 17 to 30: parts, looks, sizes, kinds, ends, wishes, partings and rings at their edges. */
final class HatEdges {
    private static final int NOTHING = -1000000000;
    /** By turns all work three and two hours more: of keeps 0, 5, .. the best one is another behind an odd number of rounds. */
    private static final String PART_RING = "hours 7;sort a brings 4 tires 47 mind 34 pride 999 need 8;sort b brings 1 tires 3 mind 39 pride 0 need 3;"
            + "hat h keeps 69 least 1 looks 77 share;person p sort b;person q sort a;in p h;in q h;";
    private static final String LOOK_RING = "hours 7;sort a brings 4 tires 37 mind 66 pride 0 need 2;sort b brings 2 tires 32 mind 20 pride 0 need 1;"
            + "hat h keeps 49 least 3 looks # share;person p sort a;person q sort b;in p h;in q h;";
    private static final String SIZE_RING = "hours 6;sort a brings 40 tires 12 mind 84 pride 1 need 1;hat h keeps 5 least 1 looks 67 after;";
    private static final String SLOW = "hours 4;sort a brings 7 tires 64 mind 63 pride 50 need 7;sort b brings 3 tires 55 mind 35 pride 999 need 7;"
            + "hat h keeps 35 least 5 looks 58 after;hat i keeps 9 least 1 looks 70 even;person p sort a;person q sort a;person r sort b;"
            + "person s sort a;in p h;in q i;in r h;in s i;";

    private HatEdges() {
    }

    static void runAll() {
        partAtBothEnds();
        partOfLikeOnes();
        partBehindSixty();
        partOfALadder();
        partFromNow();
        lookAtBothEnds();
        lookOfNobody();
        lookAtTheHatAlone();
        lookBehindSixty();
        lookAtALadder();
        sizeArguments();
        sizeAsATown();
        sizeBehindSixty();
        sizeOfTwenty();
        sizeOutOfNothing();
        sizeWithoutPairs();
        manyOfLikeOnes();
        underEachKind();
        underOfALadder();
        underArguments();
        endsAsPut();
        endsOfALadder();
        endsAlikeByEach();
        alikeAtBothEnds();
        pairsTogether();
        wouldArguments();
        wishOfLikeOnes();
        wishByOneHundredth();
        chooseCounted();
        chooseByNumber();
        stableToTheLast();
        gapOfNone();
        ringsIfAbove();
        ringsOfLikeOnes();
        ringsLeftAlone();
        ringsOfTwelve();
    }

    private static String sort(String name, int brings, int tires, int mind, int pride, int need) {
        return "sort " + name + " brings " + brings + " tires " + tires + " mind " + mind + " pride " + pride + " need " + need + ";";
    }

    private static String hat(String name, int keeps, int least, int looks, String kind) {
        return "hat " + name + " keeps " + keeps + " least " + least + " looks " + looks + " " + kind + ";";
    }

    private static String in(int people) {
        StringBuilder text = new StringBuilder();
        for (int p = 0; p < people; p++) {
            text.append("person p").append((char) ('a' + p)).append(" sort a;in p").append((char) ('a' + p)).append(" h;");
        }
        return text.toString();
    }

    private static WageHats works(String text, int... hours) {
        WageHats x = Texts.townOf(text);
        for (int p = 0; p < hours.length; p++) {
            x.put(p, hours[p]);
        }
        return x;
    }

    private static int hoursOfAll(WageHats x) {
        int hours = 0;
        for (int p = 0; p < x.has(2); p++) {
            hours += x.person(p, 2);
        }
        return hours;
    }

    /** Behind so many rounds, or fewer if it rests. */
    private static WageHats behind(int rounds, WageHats x) {
        if (x.rest(Math.min(60, rounds)) == -2 && rounds > 60) {
            x.rest(rounds - 60);
        }
        return x;
    }

    // ---- promise 17

    /** What all work is all WORTH: with keeps of 100 each has its own 50 hours' worth, with less it tires less. */
    private static void partAtBothEnds() {
        WageHats x = Texts.townOf("hours 60;" + sort("a", 99, 99, 0, 0, 1) + hat("h", 3, 0, 0, "even") + in(2));
        Check.due("part of 100", x.part(0, 0), 100);
        Check.due("its worths", x.part(0, 1), 2 * 247500);
        x = Texts.townOf(sort("a", 1, 30, 0, 0, 1) + sort("b", 0, 99, 0, 999, 1) + hat("h", 100, 0, 0, "even")
                + "person p sort a;person q sort b;in p h;in q h;");
        Check.due("part of 0: p's second hour tires proud q", x.part(0, 0), 0);
        Check.due("worths of one hour each", x.part(0, 1), 100 - 30 - 99);
        Check.due("keeps stay", x.hat(0, 0), 100);
        x.rest(60);
        Check.due("with keeps of 100", x.all(), 200 - 120 - 396);
        for (int what : new int[] {-1, 2, Integer.MIN_VALUE, Integer.MAX_VALUE}) {
            Check.due("part what " + what, x.part(0, what), NOTHING);
        }
        Check.due("part of hat -1", x.part(-1, 0), NOTHING);
        Check.due("part of hat 1", x.part(1, 0), NOTHING);
    }

    /** The first of like ones: of an empty hat, of nobody, of those who bring nothing. */
    private static void partOfLikeOnes() {
        Check.due("of nobody", Texts.townOf(hat("h", 50, 0, 0, "even")).part(0, 0), 0);
        Check.due("nobody's worths", Texts.townOf(hat("h", 50, 0, 0, "even")).part(0, 1), 0);
        WageHats x = Texts.townOf(sort("a", 0, 1, 0, 0, 1) + hat("h", 50, 0, 0, "even") + in(2));
        Check.due("of those who bring nothing", x.part(0, 0), 0);
        x = Texts.townOf(sort("a", 9, 90, 0, 0, 1) + hat("g", 50, 0, 0, "even") + hat("h", 50, 0, 0, "even") + in(1));
        Check.due("of an empty hat", x.part(0, 0), 0);
        Check.due("with one who works beside it", x.part(0, 1), 4500 - 2250);
        Check.due("of one alone in it", x.part(1, 0), 0);
    }

    private static int partBehind(int rounds, int what, int... hours) {
        int best = 0;
        int most = Integer.MIN_VALUE;
        for (int keeps = 0; keeps <= 100; keeps += 5) {
            WageHats x = works(PART_RING, hours);
            x.keep(0, keeps);
            int worths = behind(rounds, x).all();
            if (worths > most) {
                most = worths;
                best = keeps;
            }
        }
        return what == 0 ? best : most;
    }

    /** 60 ROUNDS at most. */
    private static void partBehindSixty() {
        WageHats x = works(PART_RING, 0, 4);
        Check.due("part behind sixty", x.part(0, 0), 25);
        Check.due("part by its rounds", partBehind(60, 0, 0, 4), 25);
        Check.due("its worths", x.part(0, 1), partBehind(60, 1, 0, 4));
        Check.due("one round less", partBehind(59, 0, 0, 4), 5);
        Check.due("one round more", partBehind(61, 0, 0, 4), 5);
    }

    /** All WORTHS of each part behind 60 ROUNDS, where with keeps of 0 the 61st still changes some. */
    private static void partOfALadder() {
        int best = 0;
        int most = Integer.MIN_VALUE;
        for (int keeps = 0; keeps <= 100; keeps += 5) {
            WageHats x = Texts.townOf(WorthEdges.ladder(60, 0));
            x.keep(0, keeps);
            int worths = behind(60, x).all();
            if (worths > most) {
                most = worths;
                best = keeps;
            }
        }
        WageHats x = Texts.townOf(WorthEdges.ladder(60, 0));
        Check.due("part of a ladder", x.part(0, 0), best);
        Check.due("its worths", x.part(0, 1), most);
    }

    /** From the HOURS of now: an hour pays where the other one works one, else it does not. */
    private static void partFromNow() {
        String text = "hours 1;" + sort("a", 1, 99, 0, 0, 1) + hat("h", 0, 1, 99, "even") + in(2);
        WageHats x = works(text, 0, 0);
        int idle = x.part(0, 1);
        x.put(0, 1);
        x.put(1, 1);
        x.keep(0, 0);
        Check.due("idle ones: 1 each by keeps of 5", idle, 2);
        Check.due("idle ones' part", works(text, 0, 0).part(0, 0), 5);
        Check.due("part of those who work", x.part(0, 0), 0);
        Check.due("their worths", x.part(0, 1), 2);
    }

    // ---- promise 18

    /** A lone q brings b times its most hours; p works least 4 for it, or nothing. */
    private static int lookBeside(String ahead, int tires, int brings) {
        return Texts.townOf(ahead + sort("a", 0, tires, 0, 0, 1) + sort("b", brings, 0, 0, 0, 1) + hat("h", 0, 4, 50, "even")
                + "person p sort a;person q sort b;in p h;in q h;").look(0);
    }

    /** 0 .. 100, NONE when no looks do: MEAN less 16 times tires against what of MEAN is left. */
    private static void lookAtBothEnds() {
        Check.due("looks of 99: 800 - 784 is above 8, not above 16", lookBeside("hours 8;", 49, 2), 99);
        Check.due("looks of 98: 900 - 880 is above 18, not above 27", lookBeside("hours 9;", 55, 2), 98);
        Check.due("looks of 100: 900 - 896 is above 0, not above 9", lookBeside("hours 9;", 56, 2), 100);
        Check.due("no looks: 900 - 912", lookBeside("hours 9;", 57, 2), -1);
        Check.due("looks of 100: 1600 - 1584 is not above 16", lookBeside("hours 32;", 99, 1), 100);
        String text = sort("a", 1, 20, 0, 0, 1) + hat("h", 0, 3, 50, "even") + in(1);
        Check.due("looks of 1: two hours are worth 118, three 120", Texts.townOf(text).look(0), 1);
        Check.due("looks of 0: least 2", Texts.townOf(text.replace("least 3", "least 2")).look(0), 0);
        Check.due("looks of 0: least 0", Texts.townOf(text.replace("least 3", "least 0")).look(0), 0);
        Check.due("no looks: least 5 is worth 0", Texts.townOf(text.replace("least 3", "least 5")).look(0), -1);
        Check.due("no looks: least above the most one may", Texts.townOf("hours 2;" + text).look(0), -1);
        WageHats x = Texts.townOf(text);
        Check.due("look at -1", x.look(-1), -1);
        Check.due("look at 1", x.look(1), -1);
        Check.due("looks stay", x.hat(0, 2), 50);
    }

    private static void lookOfNobody() {
        Check.due("nobody there", Texts.townOf(hat("h", 0, 60, 0, "even")).look(0), 0);
        WageHats x = Texts.townOf(sort("a", 1, 20, 0, 0, 1) + hat("h", 0, 5, 50, "even") + in(1));
        x.move(0, -1);
        Check.due("one alone, none in it", x.look(0), 0);
    }

    /** Each PERSON of the HAT: one outside need not work least; each of two must. */
    private static void lookAtTheHatAlone() {
        String text = sort("a", 1, 20, 0, 0, 1) + sort("z", 0, 9, 0, 0, 1) + hat("h", 0, 3, 50, "even") + hat("g", 0, 9, 50, "even") + in(1)
                + "person o sort a;person y sort z;";
        Check.due("idle ones outside", Texts.townOf(text + "in y g;").look(0), 1);
        Check.due("the last one never works", Texts.townOf(text + "in y h;").look(0), -1);
        Check.due("in another hat none does", Texts.townOf(text + "in y g;").look(1), -1);
    }

    private static int lookBehind(int rounds, int... hours) {
        for (int looks = 0; looks <= 100; looks++) {
            WageHats x = behind(rounds, works(LOOK_RING.replace("#", "" + looks), hours));
            if (x.person(0, 2) >= 3 && x.person(1, 2) >= 3) {
                return looks;
            }
        }
        return -1;
    }

    private static void lookBehindSixty() {
        Check.due("look behind sixty", works(LOOK_RING.replace("#", "100"), 7, 1).look(0), 7);
        Check.due("look by its rounds", lookBehind(60, 7, 1), 7);
        Check.due("one round less", lookBehind(59, 7, 1), 9);
        Check.due("one round more", lookBehind(61, 7, 1), 9);
    }

    /** Behind 60 ROUNDS p works 59 hours, q 60. */
    private static void lookAtALadder() {
        Check.due("least of 59", Texts.townOf(WorthEdges.ladder(60, 59)).look(0), 0);
        WageHats x = Texts.townOf(WorthEdges.ladder(60, 60));
        Check.due("least of 60 needs looks", x.look(0) != 0, true);
        x.put(1, 1);
        Check.due("least of 60, one round ahead", x.look(0), 0);
    }

    // ---- promises 19 and 20

    /** n 1 .. 20; HOURS (what 0), WORTH (1). */
    private static void sizeArguments() {
        WageHats x = Texts.townOf("hours 9;" + sort("a", 10, 99, 0, 0, 1) + sort("b", 0, 1, 0, 0, 1) + hat("h", 0, 0, 0, "even") + hat("g", 100, 0, 0, "share"));
        int[][] due = {{0, 0, 0, NOTHING}, {0, 0, 1, 5}, {0, 0, 2, 3}, {0, 0, 19, 0}, {0, 0, 20, 0}, {0, 0, 21, NOTHING}, {0, 0, -1, NOTHING}, {0, 1, 20, 5},
            {1, 1, 20, 0}, {-1, 0, 1, NOTHING}, {2, 0, 1, NOTHING}, {0, -1, 1, NOTHING}, {0, 2, 1, NOTHING}};
        for (int[] row : due) {
            Check.due("size " + row[0] + " " + row[1] + " " + row[2], x.size(row[0], row[1], row[2], 0), row[3]);
        }
        int[][] worth = {{-1, NOTHING}, {0, 5}, {1, 2525}, {2, NOTHING}};
        for (int[] row : worth) {
            Check.due("size what " + row[0], x.size(0, 1, 20, row[0]), row[1]);
        }
        Check.due("nobody came", x.has(2), 0);
    }

    /** n PERSONS of one SORT, in no pair, alone in such a HAT, from 0 HOURS on: as in a town of them. */
    private static void sizeAsATown() {
        String[] towns = {SIZE_RING, "hours 9;" + sort("a", 10, 99, 0, 0, 1) + hat("h", 5, 2, 40, "share"),
            "hours 9;" + sort("a", 17, 80, 30, 9, 2) + hat("h", 60, 4, 70, "before"), "hours 12;" + sort("a", 20, 99, 7, 0, 1) + hat("h", 20, 9, 90, "even")};
        for (String town : towns) {
            WageHats asked = Texts.townOf(town);
            int best = 0;
            int most = 0;
            for (int n = 1; n <= 12; n++) {
                WageHats x = Texts.townOf(town + in(n));
                x.rest(60);
                Check.due("hours of " + n + " in " + town, asked.size(0, 0, n, 0), x.person(0, 2));
                Check.due("worth of " + n + " in " + town, asked.size(0, 0, n, 1), x.worth(0, -1));
            }
            for (int n = 1; n <= 20; n++) {
                int worth = asked.size(0, 0, n, 1);
                if (n == 1 || worth > most) {
                    best = n;
                    most = worth;
                }
            }
            Check.due("many in " + town, asked.many(0, 0), best);
        }
    }

    /** Nineteen go round in a ring: behind 59 rounds the first one is idle, behind 61 it works three hours. */
    private static void sizeBehindSixty() {
        WageHats x = Texts.townOf(SIZE_RING);
        Check.due("first of nineteen", x.size(0, 0, 19, 0), 4);
        Check.due("its worth", x.size(0, 0, 19, 1), 136);
        Check.due("first of twenty", x.size(0, 0, 20, 0), 4);
        Check.due("its worth, of twenty", x.size(0, 0, 20, 1), 156);
        Model m = new Model();
        m.most = 6;
        m.sorts.add(new Model.Sort("a", 40, 12, 84, 1, 1));
        m.now.keeps = new int[] {5};
        m.now.least = new int[] {1};
        m.now.looks = new int[] {67};
        m.now.kind = new int[] {0};
        for (int n = 13; n <= 20; n++) {
            Check.due("hours of " + n, x.size(0, 0, n, 0), m.size(0, 0, n, 0));
            Check.due("worth of " + n, x.size(0, 0, n, 1), m.size(0, 0, n, 1));
        }
    }

    /** An hour brings each of n 1000 / n, the h-th one tires by 2 h - 1: all work the most, 9 of them. */
    private static void sizeOfTwenty() {
        WageHats x = Texts.townOf("hours 9;" + sort("z", 0, 0, 0, 0, 1) + sort("a", 10, 1, 0, 0, 1) + hat("g", 0, 9, 99, "even") + hat("h", 0, 0, 0, "even") + "person p sort z;");
        for (int n = 1; n <= 20; n++) {
            Check.due("hours of " + n, x.size(1, 1, n, 0), 9);
            Check.due("worth of " + n, x.size(1, 1, n, 1), 9000 - 81);
        }
        Check.due("the other sort's", x.size(0, 1, 20, 1), 0);
        Check.due("many", x.many(1, 1), 1);
        x = Texts.townOf("hours 9;" + sort("a", 10, 1, 0, 0, 1) + hat("h", 0, 0, 0, "even"));
        for (int n = 1; n <= 20; n++) {
            Check.due("worth of " + n + ", first sort and hat", x.size(0, 0, n, 1), 9000 - 81);
        }
    }

    /** From 0 HOURS on, alone: whoever works in the town, and in the hat, does not count; but keeps of now do. */
    private static void sizeOutOfNothing() {
        String text = "hours 1;" + sort("a", 1, 99, 0, 0, 1) + hat("h", 0, 1, 99, "even") + in(12);
        WageHats x = Texts.townOf(text);
        for (int p = 0; p < 12; p++) {
            x.put(p, 1);
        }
        Check.due("of two", x.size(0, 0, 2, 0), 0);
        Check.due("of twelve", x.size(0, 0, 12, 0), 0);
        Check.due("their worth", x.size(0, 0, 12, 1), 0);
        Check.due("of one", x.size(0, 0, 1, 0), 1);
        x.keep(0, 100);
        Check.due("of two, with all kept", x.size(0, 0, 2, 0), 1);
        for (int p = 0; p < 12; p++) {
            Check.due("hours stay " + p, x.person(p, 2), 1);
        }
    }

    /** In no pair: a pair would mind the half of what one's work spreads, and begin; two that are none do not. */
    private static void sizeWithoutPairs() {
        String text = "hours 5;" + sort("a", 9, 1, 100, 0, 1) + hat("h", 0, 0, 0, "after") + in(2);
        WageHats x = Texts.townOf(text + "pair pa pb;");
        Check.due("of two", x.size(0, 0, 2, 0), 0);
        x.rest(60);
        Check.due("the pair works", x.person(0, 2) * 10 + x.person(1, 2), 55);
        Check.due("of two, still", x.size(0, 0, 2, 0), 0);
        Check.due("its pair stays", x.person(0, 3), 1);
    }

    /** The n with the most WORTH BY SIZE, the first of like ones. */
    private static void manyOfLikeOnes() {
        WageHats x = Texts.townOf(sort("a", 0, 0, 0, 0, 1) + sort("b", 10, 99, 0, 0, 1) + hat("h", 0, 0, 0, "even") + hat("g", 100, 0, 0, "even"));
        Check.due("all are like", x.many(0, 0), 1);
        Check.due("one alone is best", x.many(1, 0), 1);
        Check.due("all is kept, all are like", x.many(1, 1), 1);
        int[][] none = {{-1, 0}, {2, 0}, {0, -1}, {0, 2}, {6, 0}, {0, 4}, {Integer.MAX_VALUE, 0}, {0, Integer.MIN_VALUE}};
        for (int[] row : none) {
            Check.due("many " + row[0] + " " + row[1], x.many(row[0], row[1]), -1);
        }
    }

    // ---- promises 21 to 23

    /** Were the HAT of that KIND, all else of it as it is: as in a town with such a hat. */
    private static void underEachKind() {
        String[] kinds = {"after", "before", "even", "share"};
        String text = "hours 9;" + sort("a", 10, 70, 60, 20, 1) + sort("b", 7, 40, 30, 0, 9) + hat("h", 10, 3, 40, "#") + hat("g", 0, 0, 0, "share")
                + "person p sort a;person q sort b;person r sort a;person s sort b;in p h;in q h;in r g;pair p q;";
        for (String own : kinds) {
            for (int kind = 0; kind < 4; kind++) {
                WageHats x = works(text.replace("#", own), 2, 5, 1, 3);
                WageHats due = works(text.replace("#", kinds[kind]), 2, 5, 1, 3);
                due.rest(60);
                Check.due(own + " under " + kinds[kind] + ": worths", x.under(0, kind, 0), due.all());
                Check.due(own + " under " + kinds[kind] + ": hours in it", x.under(0, kind, 1), due.person(0, 2) + due.person(1, 2));
                Check.due(own + " stays", x.hat(0, 0) * 100 + x.person(1, 2), 1005);
            }
        }
        WageHats ring = works(WorthTest.RING, 8, 8);
        Check.due("behind sixty, hours", ring.under(0, 2, 1), 16);
        Check.due("behind sixty from one on", behind(1, ring).under(0, 2, 1), 14);
    }

    /** Behind 60 ROUNDS, from the HOURS of now: a ladder is at 59 and 60, one round ahead at 60 and 60. */
    private static void underOfALadder() {
        WageHats x = Texts.townOf(WorthEdges.ladder(60, 0));
        WageHats due = behind(60, Texts.townOf(WorthEdges.ladder(60, 0)));
        for (int kind = 0; kind < 2; kind++) {
            Check.due("a ladder's hours under " + kind, x.under(0, kind, 1), 119);
            Check.due("a ladder's worths under " + kind, x.under(0, kind, 0), due.all());
        }
        x.put(0, 44);
        Check.due("p is the first to change", x.under(0, 0, 1), 119);
        x.put(1, 1);
        Check.due("one round ahead", x.under(0, 0, 1), 120);
    }

    /** KIND 0 .. 3, what 0 and 1. */
    private static void underArguments() {
        WageHats x = works(sort("a", 10, 99, 0, 0, 1) + hat("h", 0, 0, 0, "even") + hat("g", 0, 0, 0, "even") + in(2), 1, 1);
        int[][] due = {{0, -1, 0}, {0, 4, 0}, {0, 0, -1}, {0, 0, 2}, {-1, 0, 0}, {2, 0, 0}, {0, Integer.MAX_VALUE, 0}, {0, Integer.MIN_VALUE, 1}};
        for (int[] row : due) {
            Check.due("under " + row[0] + " " + row[1] + " " + row[2], x.under(row[0], row[1], row[2]), NOTHING);
        }
        for (int kind = 0; kind < 4; kind++) {
            Check.due("an empty hat's hours", x.under(1, kind, 1), 0);
            Check.due("all worths the same", x.under(1, kind, 0), 2 * (3000 - 891));
        }
    }

    private static void endsOf(String text) {
        WageHats x = Texts.townOf(text);
        WageHats below = Texts.townOf(text);
        WageHats above = Texts.townOf(text);
        boolean alike = true;
        for (int p = 0; p < x.has(2); p++) {
            x.put(p, x.has(5) / 2);
            above.put(p, x.has(5));
        }
        below.rest(60);
        above.rest(60);
        for (int p = 0; p < x.has(2); p++) {
            alike &= below.person(p, 2) == above.person(p, 2);
        }
        int[] due = {hoursOfAll(below), hoursOfAll(above), below.all(), above.all(), alike ? 1 : 0, NOTHING, NOTHING};
        for (int i = 0; i < due.length; i++) {
            int what = i == 6 ? -1 : i;
            Check.due("ends " + what + " of " + text, x.ends(what), due[i]);
        }
    }

    /** From 0 HOURS of all, from the most of all: as put, and behind 60 ROUNDS. */
    private static void endsAsPut() {
        endsOf("");
        endsOf(hat("h", 0, 0, 0, "even"));
        endsOf("hours 0;" + sort("a", 9, 1, 0, 0, 1) + hat("h", 0, 0, 0, "even") + in(2));
        endsOf("hours 60;" + sort("a", 99, 0, 0, 0, 1) + hat("h", 0, 0, 0, "even") + in(12));
        endsOf("hours 1;" + sort("a", 1, 99, 0, 0, 1) + hat("h", 0, 1, 99, "even") + in(2));
        endsOf("hours 10;" + sort("a", 10, 99, 0, 0, 1) + hat("h", 0, 7, 50, "even") + in(2) + "person o sort a;");
        endsOf(WorthTest.RING);
        endsOf(PART_RING);
        endsOf(SIZE_RING + in(12));
        endsOf(SLOW);
        WageHats ring = Texts.townOf(WorthTest.RING);
        WageHats rounds = works(WorthTest.RING, 8, 8);
        Check.due("from above, behind sixty", ring.ends(1), 16);
        Check.due("behind 59", hoursOfAll(behind(59, rounds)), 14);
        Check.due("behind 61", hoursOfAll(behind(61, works(WorthTest.RING, 8, 8))), 14);
    }

    /** Behind 60 ROUNDS from 0 HOURS of all p works 59, q 60; from the most of all both work 60. */
    private static void endsOfALadder() {
        WageHats x = Texts.townOf(WorthEdges.ladder(60, 0));
        x.put(0, 7);
        x.put(1, 3);
        WageHats below = behind(60, Texts.townOf(WorthEdges.ladder(60, 0)));
        WageHats above = works(WorthEdges.ladder(60, 0), 60, 60);
        int[] due = {119, 120, below.all(), above.all(), 0};
        for (int what = 0; what < 5; what++) {
            Check.due("ends of a ladder " + what, x.ends(what), due[what]);
        }
        Check.due("of 59 hours all are alike", Texts.townOf(WorthEdges.ladder(59, 0)).ends(4), 1);
    }

    /** Whether the HOURS of all are alike: 2 and 1 from below, 1 and 2 from above are not, though together they are. */
    private static void endsAlikeByEach() {
        WageHats x = Texts.townOf("hours 2;sort a brings 5 tires 8 mind 83 pride 0 need 9;sort b brings 4 tires 20 mind 50 pride 999 need 4;"
                + "hat h keeps 2 least 3 looks 93 share;person p sort b;person q sort a;in p h;in q h;");
        Check.due("from below together", x.ends(0), 3);
        Check.due("from above together", x.ends(1), 3);
        Check.due("not alike", x.ends(4), 0);
        x.rest(60);
        Check.due("p from below", x.person(0, 2), 2);
        Check.due("q from below", x.person(1, 2), 1);
    }

    /** ALL ALIKE: 0 .. the most one may work, the least of like ones. */
    private static void alikeAtBothEnds() {
        int[][] due = {{0, 1, 9, 0, 0}, {99, 0, 9, 9, 2 * 89100}, {99, 0, 60, 60, 2 * 594000}, {99, 0, 0, 0, 0}, {0, 0, 9, 0, 0}, {10, 40, 60, 12, 12480},
            {10, 40, 11, 11, 12320}, {1, 99, 9, 1, 2}};
        for (int[] row : due) {
            WageHats x = works("hours " + row[2] + ";" + sort("a", row[0], row[1], 50, 99, 1) + hat("h", 0, 0, 0, "after") + in(2), 0, Math.min(1, row[2]));
            Check.due("alike of brings " + row[0] + " tires " + row[1], x.alike(0), row[3]);
            Check.due("alike worths", x.alike(1), row[4]);
            Check.due("alike -1", x.alike(-1), NOTHING);
            Check.due("alike 2", x.alike(2), NOTHING);
            Check.due("hours stay", x.person(1, 2), Math.min(1, row[2]));
        }
        Check.due("alike of nobody", new WageHats().alike(0), 0);
        WageHats x = Texts.townOf("hours 9;" + sort("a", 1, 0, 0, 0, 1) + hat("h", 0, 9, 99, "even") + in(2));
        Check.due("alike with least", x.alike(0), 9);
        Check.due("alike worths with least", x.alike(1), 1800);
    }

    // ---- promises 24 to 26

    /** What both were PAID so far together; whether both are in one HAT. */
    private static void pairsTogether() {
        WageHats x = works("hours 9;" + sort("a", 10, 0, 0, 0, 1) + hat("h", 0, 0, 0, "even") + hat("g", 0, 0, 0, "even")
                + "person p sort a;person q sort a;person r sort a;pair r p;", 3, 5, 4);
        int[][] places = {{-1, -1, 0}, {0, -1, 0}, {0, 0, 1}, {0, 1, 0}, {1, 1, 1}, {-1, 1, 0}};
        for (int[] row : places) {
            x.move(0, row[0]);
            x.move(2, row[1]);
            Check.due("in one hat: " + row[0] + " " + row[1], x.pair(0, 3), row[2]);
        }
        Check.due("paid to none", x.pair(0, 2), 0);
        x.run(1);
        Check.due("paid to both", x.pair(0, 2), 70);
        x.run(60);
        Check.due("so far", x.pair(0, 2), 61 * 70);
        Check.due("the first", x.pair(0, 0), 2);
        Check.due("the second", x.pair(0, 1), 0);
        for (int what : new int[] {-1, 4, 5}) {
            Check.due("pair what " + what, x.pair(0, what), -1);
        }
        Check.due("pair 1", x.pair(1, 0), -1);
        Check.due("pair -1", x.pair(-1, 0), -1);
        Check.due("without pairs", Texts.townOf(sort("a", 1, 1, 1, 1, 1) + "person p sort a;").pair(0, 0), -1);
    }

    /** In a HAT, or alone (NONE). */
    private static void wouldArguments() {
        WageHats x = works(sort("a", 1, 0, 0, 0, 1) + hat("h", 0, 9, 10, "even") + hat("g", 0, 9, 20, "even") + in(1) + "person o sort a;", 1, 3);
        int[][] due = {{0, -2, NOTHING}, {0, -1, 100}, {0, 0, 90}, {0, 1, 80}, {0, 2, NOTHING}, {1, -1, 300}, {1, 0, 180}, {1, 1, 240}, {2, 0, NOTHING}, {2, -1, NOTHING},
            {-1, 0, NOTHING}, {-1, -1, NOTHING}};
        for (int[] row : due) {
            Check.due("would " + row[0] + " " + row[1], x.would(row[0], row[1]), row[2]);
        }
        Check.due("where it is", x.would(0, 0), x.worth(0, -1));
    }

    /** One hour of p is worth 90 in h, 100 alone, in i and k, 99 in l; where it is now, if nothing is above that. */
    private static void wishOfLikeOnes() {
        String hats = hat("h", 0, 9, 10, "even") + hat("i", 0, 0, 0, "even") + hat("k", 0, 0, 0, "even") + hat("l", 0, 9, 1, "even");
        WageHats x = works(sort("a", 1, 0, 0, 0, 1) + hats + "person p sort a;", 1);
        int[][] due = {{-1, -1, 0}, {0, -1, 10}, {1, 1, 0}, {2, 2, 0}, {3, -1, 1}};
        for (int[] row : due) {
            x.move(0, row[0]);
            Check.due("wish from " + row[0], x.wish(0), row[1]);
            Check.due("gap from " + row[0], x.gap(0), row[2]);
            Check.due("stable in " + row[0], x.stable(), row[1] == row[0] ? 1 : 0);
        }
        Check.due("wish of 1", x.wish(1), -2);
        Check.due("wish of -1", x.wish(-1), -2);
        x = works(sort("a", 1, 0, 0, 0, 1) + sort("b", 3, 0, 0, 0, 1) + hats + "person p sort a;person q sort b;person r sort b;in q i;in r k;", 1, 1, 1);
        int[][] beside = {{-1, 1}, {0, 1}, {1, 1}, {2, 2}, {3, 1}};
        for (int[] row : beside) {
            x.move(0, row[0]);
            Check.due("wish beside two from " + row[0], x.wish(0), row[1]);
            Check.due("gap beside two from " + row[0], x.gap(0), row[0] == 0 ? 110 : row[0] == 3 ? 101 : row[0] == -1 ? 100 : 0);
        }
        x.move(2, 3);
        x.move(0, 0);
        Check.due("to the last hat: 199 there, 200 in i", x.wish(0), 1);
        x.move(1, -1);
        Check.due("to the last hat: 198 there", x.wish(0), 3);
    }

    /** By one hundredth above it goes, by none it stays; a town of nobody is stable. */
    private static void wishByOneHundredth() {
        for (int looks = 0; looks <= 2; looks++) {
            WageHats x = works(sort("a", 1, 0, 0, 0, 1) + hat("h", 0, 9, looks, "even") + in(1), 1);
            Check.due("wish with looks of " + looks, x.wish(0), looks == 0 ? 0 : -1);
            Check.due("gap with looks of " + looks, x.gap(0), looks);
            Check.due("stable with looks of " + looks, x.stable(), looks == 0 ? 1 : 0);
            Check.due("choose with looks of " + looks, x.choose(60), looks == 0 ? 1 : 2);
            Check.due("is at " + looks, x.person(0, 1), looks == 0 ? 0 : -1);
        }
        Check.due("nobody", Texts.townOf(hat("h", 0, 0, 0, "even")).stable(), 1);
    }

    // ---- promises 27 to 30

    /** How many, that one counted; -2 when it is not within n, HATS as n rounds leave them. */
    private static void chooseCounted() {
        int[] due = {-2, -2, -2, -2, -2, 6, 6};
        for (int n = 1; n <= 7; n++) {
            WageHats x = works(SLOW, 1, 0, 4, 4);
            Check.due("choose " + n, x.choose(n), due[n - 1]);
            Check.due("stable behind " + n, x.stable(), n >= 5 ? 1 : 0);
        }
        Check.due("choose 60", works(SLOW, 1, 0, 4, 4).choose(60), 6);
        WageHats x = works(SLOW, 1, 0, 4, 4);
        for (int n : new int[] {0, 61, -1, Integer.MIN_VALUE, Integer.MAX_VALUE}) {
            Check.due("choose " + n, x.choose(n), -1);
            Check.due("none went", x.person(0, 1) * 1000 + x.person(1, 1) * 100 + x.person(2, 1) * 10 + x.person(3, 1), 101);
        }
        Check.due("nobody chooses", new WageHats().choose(1), 1);
    }

    /** Each PERSON, by number, goes where it wishes: who comes later sees who went. */
    private static void chooseByNumber() {
        WageHats x = works(SLOW, 1, 0, 4, 4);
        WageHats due = works(SLOW, 1, 0, 4, 4);
        for (int round = 1; round <= 6; round++) {
            x.choose(1);
            for (int p = 0; p < 4; p++) {
                due.move(p, due.wish(p));
            }
            for (int p = 0; p < 4; p++) {
                Check.due("round " + round + ", hat of " + p, x.person(p, 1), due.person(p, 1));
            }
        }
    }

    /** Of one to three persons only one would go: stable sees each. */
    private static void stableToTheLast() {
        for (int unlike = 0; unlike < 3; unlike++) {
            WageHats x = works(sort("a", 1, 0, 0, 0, 1) + hat("h", 0, 0, 0, "even") + hat("g", 0, 9, 9, "even") 
                    + "person p sort a;person q sort a;person r sort a;", 1, 1, 1);
            Check.due("all alone", x.stable(), 1);
            x.move(unlike, 1);
            Check.due("but " + unlike, x.stable(), 0);
            x.move(unlike, 0);
            Check.due(unlike + " in h", x.stable(), 1);
        }
    }

    private static void gapOfNone() {
        WageHats x = works(sort("a", 1, 0, 0, 0, 1) + hat("h", 0, 0, 0, "even") + in(2), 4, 0);
        Check.due("gap of 0", x.gap(0), 200);
        Check.due("gap of 1", x.gap(1), 0);
        Check.due("gap of 2", x.gap(2), -1);
        Check.due("gap of -1", x.gap(-1), -1);
        x.move(0, -1);
        Check.due("gap alone", x.gap(0), 0);
        Check.due("gap of the other one", x.gap(1), 0);
    }

    /** If any is above: by one hundredth, not by none. */
    private static void ringsIfAbove() {
        for (int looks = 0; looks <= 2; looks++) {
            WageHats x = works("hours 1;" + sort("a", 1, 0, 0, 0, 1) + hat("h", 0, 9, looks, "even") + in(1), 1);
            Check.due("leaves by " + looks, x.rings(0, 0), looks == 0 ? -1 : 0);
            Check.due("then none", x.rings(0, 1), -1);
        }
        WageHats x = works("hours 2;" + sort("a", 1, 0, 0, 0, 1) + hat("h", 0, 0, 0, "even") + in(1), 1);
        Check.due("with its best hours alone", x.rings(0, 0), 0);
        x.put(0, 2);
        Check.due("as good in the hat", x.rings(0, 0), -1);
        Check.due("of an empty hat", Texts.townOf(hat("h", 0, 0, 0, "even")).rings(0, 0), -1);
        int[][] none = {{-1, 0}, {1, 0}, {0, -1}, {0, 1}, {Integer.MAX_VALUE, 0}, {0, Integer.MIN_VALUE}, {0, Integer.MAX_VALUE}};
        x.put(0, 1);
        for (int[] row : none) {
            Check.due("rings " + row[0] + " " + row[1], x.rings(row[0], row[1]), -1);
        }
        Check.due("it is there still", x.person(0, 1), 0);
    }

    /** Most above, the first of like ones: alone each has 900; those in h now work 2, 1, 1, 3 hours. */
    private static void ringsOfLikeOnes() {
        WageHats x = works("hours 9;" + sort("a", 1, 0, 0, 1, 1) + hat("h", 100, 0, 0, "even") + in(4), 2, 1, 1, 3);
        int[] due = {1, 2, 0, 3, -1, -1};
        for (int k = 0; k < due.length; k++) {
            Check.due("rings " + k, x.rings(0, k), due[k]);
        }
        x.move(1, -1);
        Check.due("without the first one", x.rings(0, 0), 2);
        Check.due("three left", x.rings(0, 2), 3);
        Check.due("none behind three", x.rings(0, 3), -1);
    }

    /** The others that left being alone: p's one hour is worth more while q and r bring it theirs. */
    private static void ringsLeftAlone() {
        WageHats x = works("hours 9;" + sort("a", 1, 0, 0, 0, 1) + sort("b", 9, 0, 0, 0, 1) + hat("h", 0, 0, 0, "even")
                + "person p sort a;person q sort b;in p h;in q h;", 9, 9);
        Check.due("p is better off beside q", x.gap(0), 0);
        Check.due("q leaves first", x.rings(0, 0), 1);
        Check.due("then p has as much alone", x.rings(0, 1), -1);
        x.put(0, 8);
        Check.due("q first again", x.rings(0, 0), 1);
        Check.due("then p, for its ninth hour", x.rings(0, 1), 0);
        Check.due("then none", x.rings(0, 2), -1);
    }

    /** All twelve leave, one by one; a thirteenth is none. */
    private static void ringsOfTwelve() {
        WageHats x = Texts.townOf("hours 9;" + sort("a", 1, 0, 0, 0, 1) + hat("h", 100, 0, 0, "even") + in(12));
        for (int k = 0; k < 12; k++) {
            Check.due("of twelve " + k, x.rings(0, k), k);
        }
        Check.due("of twelve 12", x.rings(0, 12), -1);
        Check.due("all are there still", x.hat(0, 4), 12);
    }
}
