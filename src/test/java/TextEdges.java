import java.util.ArrayList;
import java.util.List;

/** Terms I: each edge that its sentences name for a text, and a step to either side of it. */
final class TextEdges {
    static final String SORT = "sort s brings 1 tires 1 mind 1 pride 1 need 1;";
    private static final String HAT = "hat h keeps 1 least 1 looks 1 even;";
    private static final String TWO = SORT + HAT + "person a sort s;person b sort s;";
    private static final String[] OWN = ("hours sort brings tires mind pride need hat keeps least looks after before even share person in "
            + "pair works when or and not all many week last most drawn own kept min max").split(" ");

    private TextEdges() {
    }

    static void runAll() {
        statementsAtMost();
        whateverStandsThere();
        hoursLimits();
        sortNumbers();
        hatNumbers();
        kinds();
        sortsAtMost();
        hatsAtMost();
        personsAtMost();
        rulesAtMost();
        pairsAtMost();
        nameLengths();
        nameLetters();
        ownWords();
        nearlyOwnWords();
        unlikeNames();
        toldAhead();
        numberLengths();
        blanks();
        blanksOfWordsAndNumbers();
        endsTooSoon();
        firstAlongTheText();
        sevenOpen();
        openTillItsFactEnds();
        openAnew();
        placesOnAFullTape();
    }

    private static void bad(int kind, String marked) {
        FaultTest.bad(kind, marked);
    }

    private static void good(int statements, String text) {
        FaultTest.good(statements, text);
    }

    /** { STATEMENT ; } (100 at most). */
    private static void statementsAtMost() {
        for (int n : new int[] {0, 1, 2, 99, 100}) {
            good(n, "hours 5;".repeat(n));
        }
        bad(5, "hours 5;".repeat(100) + "^hours 5;");
        bad(5, "hours 5;".repeat(100) + "^hours 5;hours 5;");
        String mixed = TWO + "in a h;".repeat(50) + "hours 5;".repeat(45);
        good(99, mixed);
        good(100, mixed + "pair a b;");
        bad(5, mixed + "pair a b;^in a h;");
    }

    /** A 101st STATEMENT (whatever stands there), at its first byte; where a 100th stands it is judged. */
    private static void whateverStandsThere() {
        for (String text : new String[] {";", "?", "x", "5", "hours", "hours 61;", "sort", "\t", "\u00e9", "[", "abcdefgh", "12345", "brings"}) {
            bad(5, "hours 5;".repeat(100) + "^" + text);
            bad(5, "hours 5;".repeat(100) + " \n^" + text + ";;");
        }
        for (String text : new String[] {";", "?", "x", "5", "\t", "\u00e9", "[", "abcdefgh", "12345", "brings"}) {
            bad(1, "hours 5;".repeat(99) + "^" + text);
        }
        bad(2, "hours 5;".repeat(99) + "hours ^61;");
        bad(1, "hours 5;".repeat(99) + "hours 5^");
        good(100, "hours 5;".repeat(100) + "  ");
    }

    /** hours N: 0 .. 60; the last one counts; 40 without. */
    private static void hoursLimits() {
        WageHats x = new WageHats();
        for (int n = 0; n <= 60; n++) {
            Check.due("hours " + n, Texts.town(x, "hours " + n + ";"), 1);
            Check.due("may work " + n, x.has(5), n);
        }
        for (int n : new int[] {61, 62, 99, 100, 600, 9999}) {
            bad(2, "hours ^" + n + ";");
        }
        Check.due("without", Texts.town(x, SORT) * 100 + x.has(5), 140);
        Check.due("without, empty", Texts.town(x, "") * 100 + x.has(5), 40);
        Check.due("the last one, below", Texts.town(x, "hours 9;hours 60;hours 0;") * 100 + x.has(5), 300);
        Check.due("the last one, above", Texts.town(x, "hours 9;hours 0;" + SORT + "hours 60;") * 100 + x.has(5), 460);
    }

    private static String sort(int brings, int tires, int mind, int pride, int need) {
        return "sort s brings " + brings + " tires " + tires + " mind " + mind + " pride " + pride + " need " + need + ";";
    }

    /** 0 .. 99, 0 .. 99, 0 .. 100, 0 .. 999, 1 .. 9: what the lowest and the highest of each do. */
    private static void sortNumbers() {
        int[][] edges = {{0, 99}, {0, 99}, {0, 100}, {0, 999}, {1, 9}};
        String[] words = {"brings", "tires", "mind", "pride", "need"};
        for (int i = 0; i < 5; i++) {
            for (int edge = 0; edge < 2; edge++) {
                int[] n = {1, 1, 1, 1, 1};
                n[i] = edges[i][edge];
                String text = sort(n[0], n[1], n[2], n[3], n[4]);
                good(1, text);
                sortCounts(text, n);
                String before = words[i] + " " + n[i];
                int off = edge == 0 ? n[i] - 1 : n[i] + 1;
                if (off >= 0) {
                    bad(2, text.replace(before, words[i] + " ^" + off));
                }
            }
        }
    }

    /** One hour of p beside an idle q: EARNED; alone; after: SUM b, MEAN 50 b, SPREAD 50 b; by need beside 3. */
    private static void sortCounts(String text, int[] n) {
        WageHats x = Texts.townOf(text + "sort t brings 0 tires 0 mind 0 pride 0 need 3; hat h keeps 0 least 0 looks 0 after;"
                + "hat g keeps 0 least 0 looks 0 share; person p sort s; person q sort t; person r sort s; in p h; in q h;");
        x.put(0, 1);
        int b = n[0];
        Check.due("brings of " + text, x.person(0, 4), b);
        Check.due("tires of " + text, x.would(0, -1), 100 * b - n[1]);
        Check.due("mind of " + text, x.worth(0, -1), 50 * b - n[2] * (50 * b) / 100 - n[1]);
        x.put(1, 2);
        Check.due("pride of " + text, x.worth(0, -1), 50 * b - n[2] * (50 * b) / 100 - n[1] - n[3]);
        x.put(1, 0);
        x.move(0, 1);
        x.move(1, 1);
        Check.due("need of " + text, x.worth(0, -1), 100 * b * n[4] / (n[4] + 3) - n[1]);
    }

    /** 0 .. 100, 0 .. 60, 0 .. 100. */
    private static void hatNumbers() {
        int[][] edges = {{0, 100}, {0, 60}, {0, 100}};
        String[] words = {"keeps", "least", "looks"};
        for (int i = 0; i < 3; i++) {
            for (int edge = 0; edge < 2; edge++) {
                int[] n = {1, 1, 1};
                n[i] = edges[i][edge];
                String text = "hat h keeps " + n[0] + " least " + n[1] + " looks " + n[2] + " even;";
                WageHats x = Texts.townOf(text);
                for (int what = 0; what < 3; what++) {
                    Check.due(text + " " + what, x.hat(0, what), n[what]);
                }
            }
            String text = "hat h keeps 1 least 1 looks 1 even;";
            bad(2, text.replace(words[i] + " 1", words[i] + " ^" + (edges[i][1] + 1)));
            good(1, text.replace(words[i] + " 1", words[i] + " " + (edges[i][1] - 1)));
        }
    }

    /** KIND: after, before, even, share. */
    private static void kinds() {
        String[] kinds = {"after", "before", "even", "share"};
        for (int kind = 0; kind < 4; kind++) {
            Check.due("kind " + kinds[kind], Texts.townOf(HAT.replace("even", kinds[kind])).hat(0, 3), kind);
        }
        for (String word : OWN) {
            if (!List.of(kinds).contains(word)) {
                bad(1, HAT.replace("even", "^" + word));
            }
        }
        bad(1, HAT.replace("even", "^eve"));
        bad(1, HAT.replace("even", "^evens"));
        bad(1, HAT.replace("even", "^0"));
    }

    private static String many(int n, String one) {
        StringBuilder text = new StringBuilder();
        for (int i = 0; i < n; i++) {
            text.append(one.replace('#', (char) ('a' + i)));
        }
        return text.toString();
    }

    /** 6 SORTS; the sixth is whole. */
    private static void sortsAtMost() {
        String one = "sort s# brings 1 tires 1 mind 1 pride 1 need 1;";
        good(5, many(5, one));
        good(6, many(6, one));
        bad(5, many(6, one) + "^" + one.replace("#", "g"));
        bad(5, many(6, one) + "^sort");
        bad(5, many(6, one) + "^sort sa");
        WageHats x = Texts.townOf(many(5, one) + sort(9, 8, 100, 6, 5) + "hat h keeps 0 least 0 looks 0 after;"
                + "hat g keeps 0 least 0 looks 0 share; person p sort s; person q sort sa; in p h; in q h;");
        Check.due("sorts", x.has(0), 6);
        Check.due("sort of p", x.person(0, 0), 5);
        Check.due("name of the sixth", x.letter(0, 5, 0), 19);
        Check.due("no seventh", x.letter(0, 6, 0), -1);
        x.put(0, 2);
        Check.due("brings of the sixth", x.person(0, 4), 18);
        Check.due("tires of the sixth", x.would(0, -1), 1800 - 32);
        Check.due("mind of the sixth", x.worth(0, -1), 900 - 900 - 32);
        x.put(1, 3);
        Check.due("pride of the sixth: SUM 21, MEAN 1050, SPREAD 750", x.worth(0, -1), 1050 - 750 - 32 - 6);
        x.put(1, 0);
        x.move(0, 1);
        x.move(1, 1);
        Check.due("need of the sixth", x.worth(0, -1), 1500 - 32);
    }

    /** 4 HATS; the fourth is whole. */
    private static void hatsAtMost() {
        String one = "hat h# keeps 1 least 1 looks 1 even;";
        good(3, many(3, one));
        good(4, many(4, one));
        bad(5, many(4, one) + "^" + one.replace("#", "e"));
        bad(5, many(4, one) + "^hat");
        WageHats x = Texts.townOf(many(3, one) + "hat g keeps 20 least 7 looks 30 share;" + SORT + "person p sort s; in p g;");
        Check.due("hats", x.has(1), 4);
        int[] due = {20, 7, 30, 3, 1, 0, 0, 0};
        for (int what = 0; what < due.length; what++) {
            Check.due("the fourth hat " + what, x.hat(3, what), due[what]);
        }
        Check.due("name of the fourth", x.letter(1, 3, 0), 7);
        Check.due("no fifth", x.hat(4, 0), -1);
        x.put(0, 10);
        Check.due("slip in the fourth", x.person(0, 5), 8);
        Check.due("part of the fourth", x.part(3, 1) > 0, true);
        Check.due("look of the fourth", x.look(3), 0);
        Check.due("size in the fourth", x.size(0, 3, 2, 0) > 0, true);
        Check.due("moved from the fourth", x.move(0, 2), true);
        Check.due("moved to the fourth", x.move(0, 3), true);
    }

    /** 12 PERSONS; the twelfth is whole. */
    private static void personsAtMost() {
        String one = "person p# sort s;";
        good(12, SORT + many(11, one));
        good(13, SORT + many(12, one));
        bad(5, SORT + many(12, one) + "^person x sort s;");
        bad(5, SORT + many(12, one) + "^person");
        WageHats x = Texts.townOf(SORT + "hat f keeps 0 least 0 looks 0 before;" + many(11, one) + "person zoe sort s;" + many(11, "in p# f;")
                + "in zoe f;");
        Check.due("persons", x.has(2), 12);
        Check.due("name of the twelfth", x.letter(2, 11, 0), 26);
        Check.due("no thirteenth", x.letter(2, 12, 0), -1);
        Check.due("said by the twelfth", x.said(11, 9), true);
        Check.due("put of the twelfth", x.put(11, 8), 0);
        Check.due("less of the twelfth", x.less(), 1 << 11);
        Check.due("paid to all", x.run(1), 8);
        int whose = 0;
        int drawn = 0;
        int paid = 0;
        for (int p = 0; p < 12; p++) {
            whose |= 1 << x.drew(p);
            drawn += x.person(p, 7);
            paid += x.person(p, 8);
        }
        Check.due("twelve slips, each drawn once", whose, 4095);
        Check.due("drawn of twelve", drawn, 8);
        Check.due("paid to twelve", paid, 8);
        Check.due("no slip of a thirteenth", x.drew(12), -1);
        Check.due("the twelfth alone", x.move(11, -1), true);
        x.run(1);
        Check.due("the twelfth was paid", x.person(11, 8) >= 8, true);
        Check.due("one is alone", x.has(8), 1);
    }

    /** 12 RULES; the twelfth is whole. */
    private static void rulesAtMost() {
        good(12, SORT + "works s 1 when all;".repeat(11));
        good(13, SORT + "works s 1 when all;".repeat(12));
        bad(5, SORT + "works s 1 when all;".repeat(12) + "^works s 1 when all;");
        bad(5, SORT + "works s 1 when all;".repeat(12) + "^works");
        WageHats x = Texts.townOf(SORT + "works s 1 when not all;".repeat(11) + "works s 12 when 1 < 2;person p sort s;");
        Check.due("rules", x.has(4), 12);
        x.run(1);
        Check.due("by the twelfth", x.person(0, 2), 12);
        x = Texts.townOf(SORT + SORT.replace("sort s", "sort t") + "works s 1 when all;".repeat(11) + "works t 12 when 1 < 2;person p sort s;person q sort t;");
        x.run(1);
        Check.due("the twelfth is not of the first sort", x.person(0, 2), 1);
        Check.due("it is of the second", x.person(1, 2), 12);
    }

    /** Twelve persons are six pairs; the sixth is whole. */
    private static void pairsAtMost() {
        StringBuilder text = new StringBuilder(SORT + many(12, "person p# sort s;"));
        for (int k = 0; k < 6; k++) {
            text.append("pair p").append((char) ('l' - k)).append(" p").append((char) ('a' + k)).append(';');
        }
        WageHats x = Texts.townOf(text.toString());
        Check.due("pairs", x.has(3), 6);
        for (int k = 0; k < 6; k++) {
            Check.due("first of pair " + k, x.pair(k, 0), 11 - k);
            Check.due("second of pair " + k, x.pair(k, 1), k);
        }
        Check.due("no seventh", x.pair(6, 0), -1);
        bad(3, text + "pair ^pa pb;");
    }

    /** NAMES: 1 to 6 letters; a 7th letter at itself. */
    private static void nameLengths() {
        String[] names = {"a", "ab", "abcde", "abcdef"};
        for (String name : names) {
            good(1, SORT.replace("sort s", "sort " + name));
            good(1, HAT.replace("hat h", "hat " + name));
            good(2, SORT + "person " + name + " sort s;");
        }
        String[] asked = {"sort #", "hat #", SORT + "person #", SORT + "person a sort #", TWO + "in #", TWO + "in a #", TWO + "pair #",
            TWO + "pair a #", TWO + "works #"};
        for (String ahead : asked) {
            bad(1, ahead.replace("#", "^;"));
            bad(1, ahead.replace("#", "^1"));
            bad(1, ahead.replace("#", "^"));
            bad(1, ahead.replace("#", "abcdef^g"));
            bad(1, ahead.replace("#", "abcdef^ghijklmnop"));
        }
        good(5, SORT.replace("sort s", "sort abcdef") + "hat ghijkl keeps 1 least 1 looks 1 even;person mnopqr sort abcdef;"
                + "in mnopqr ghijkl;works abcdef 1 when all;");
    }

    /** Letters are a to z, the bytes beside them none. */
    private static void nameLetters() {
        WageHats x = new WageHats();
        for (char c = 'a'; c <= 'z'; c++) {
            Texts.town(x, SORT.replace("sort s", "sort " + c));
            Check.due("letter " + c, x.letter(0, 0, 0), c - 'a' + 1);
            Texts.town(x, HAT.replace("hat h", "hat yxwvu" + c));
            Check.due("sixth letter " + c, x.letter(1, 0, 5), c - 'a' + 1);
        }
        for (char c : new char[] {'`', '{', '@', 'A', 'Z', '[', '_', '\'', '\u00e1', '\u00ff', '\u0000', '\u0080'}) {
            bad(1, "sort ^" + c + " brings 1 tires 1 mind 1 pride 1 need 1;");
            bad(1, "sort a^" + c + " brings 1 tires 1 mind 1 pride 1 need 1;");
        }
    }

    /** No OWN WORD: where a NAME is asked it is at fault whole, at its first byte. */
    private static void ownWords() {
        for (String word : OWN) {
            bad(1, "sort ^" + word + " brings 1");
            bad(1, "hat ^" + word + " keeps 1");
            bad(1, SORT + "person ^" + word + " sort s;");
            bad(1, SORT + "person a sort ^" + word + ";");
            bad(1, TWO + "in ^" + word + " h;");
            bad(1, TWO + "in a ^" + word + ";");
            bad(1, TWO + "pair ^" + word + " a;");
            bad(1, TWO + "pair a ^" + word + ";");
            bad(1, TWO + "works ^" + word + " 1 when all;");
        }
        Check.due("own words", OWN.length, 33);
    }

    /** One letter less or more is a NAME, but for a 7th letter. */
    private static void nearlyOwnWords() {
        for (String word : OWN) {
            String less = word.substring(0, word.length() - 1);
            if (!List.of(OWN).contains(less)) {
                good(1, SORT.replace("sort s", "sort " + less));
            }
            String more = word + "x";
            if (more.length() <= 6) {
                good(1, HAT.replace("hat h", "hat " + more));
            } else {
                bad(1, HAT.replace("hat h", "hat " + word + "^x"));
            }
        }
    }

    /** Unlike ones: a NAME to be given that is there already, whatever bears it. */
    private static void unlikeNames() {
        String[] givers = {SORT.replace("sort s", "sort #"), HAT.replace("hat h", "hat #"), "person # sort s;"};
        for (String first : givers) {
            for (String second : givers) {
                bad(3, SORT + first.replace("#", "same") + second.replace("#", "^same"));
                good(3, SORT + first.replace("#", "same") + second.replace("#", "samf"));
                good(3, SORT + first.replace("#", "same") + second.replace("#", "sam"));
                good(3, SORT + first.replace("#", "same") + second.replace("#", "samea"));
            }
        }
        bad(3, "sort same brings 1 tires 1 mind 1 pride 1 need 1;hat ^same");
        WageHats x = Texts.townOf(TWO);
        Check.due("an older town's names are free", Texts.town(x, TWO), 4);
    }

    /** Told ahead of where they are asked: one that is told later is none. */
    private static void toldAhead() {
        bad(3, "person a sort ^s;" + SORT);
        bad(3, "works ^s 1 when all;" + SORT);
        bad(3, SORT + "person a sort s;in a ^h;" + HAT);
        bad(3, SORT + HAT + "in ^a h;person a sort s;");
        bad(3, SORT + "person a sort s;pair a ^b;person b sort s;");
        bad(3, SORT + "person b sort s;pair ^a b;person a sort s;");
        bad(3, SORT.replace("sort s", "sort ab") + "person x sort ^a;");
        bad(3, SORT.replace("sort s", "sort ab") + "person x sort ^abc;");
    }

    /** N: 1 to 4 digits; a 5th digit at itself. */
    private static void numberLengths() {
        for (String n : new String[] {"5", "05", "005", "0005"}) {
            WageHats x = Texts.townOf("hours " + n + ";");
            Check.due("hours " + n, x.has(5), 5);
        }
        bad(1, "hours 0000^5;");
        bad(1, "hours 0000^0;");
        bad(1, "hours 9999^9;");
        bad(1, "hours 0006^1999;");
        bad(2, "hours ^0061;");
        bad(1, "hours ^;");
        bad(1, "hours 5 ^5;");
        for (String n : new String[] {"0", "9", "10", "99", "100", "999", "1000", "9999", "0000"}) {
            good(2, SORT + "works s " + n + " when " + n + " = " + n + ";");
        }
        bad(1, SORT + "works s 9999^9 when all;");
        bad(1, SORT + "works s 1 when 1000^0 = 1;");
        bad(1, SORT + "works s 1 when 1 = 0000^1;");
        bad(1, SORT + "works s ( 1234^5 ) when all;");
    }

    /** Blanks (10, 32) are where one likes; no other byte is one. */
    private static void blanks() {
        for (int octet = 0; octet < 256; octet++) {
            char c = (char) octet;
            boolean word = c >= 'a' && c <= 'z' || c >= '0' && c <= '9' || c == ';' || c == '^';
            if (octet == 10 || octet == 32) {
                good(1, c + "hours" + c + "5" + c + ";" + c);
                good(1, "" + c + c + "hours" + c + c + "5" + c + c + ";" + c + c);
            } else if (!word) {
                bad(1, "^" + c + "hours 5;");
                bad(1, "hours^" + c + "5;");
                bad(1, "hours 5^" + c + ";");
                bad(1, "hours 5;^" + c);
            }
        }
        String spread = "\n sort \n s brings\n1 tires 1 mind 1 pride 1 need 1 ; works s ( 1 + 2 ) * min ( 1 , 2 ) / 3 - 4 when [ 1 < 2 ] or not 1 > 2 and 1 = 1 ;";
        good(2, spread);
        good(2, spread.replace(" ", "\n"));
        good(2, spread.replace(" ", "  "));
        good(2, SORT + "works s(1+2)*min(1,2)/3-4 when[1<2]or not 1>2 and 1=1;");
    }

    /** Words and numbers side by side need one; signs need none. */
    private static void blanksOfWordsAndNumbers() {
        bad(1, "hours^5;");
        bad(1, "hours 5;sort s brings^1");
        bad(1, "sort s brings 1^tires 1");
        bad(1, "sort s^1");
        bad(1, HAT.replace("1 even", "1^even"));
        bad(1, SORT + "works s^1 when all;");
        bad(1, SORT + "works s 1^when all;");
        bad(1, SORT + "works s 1 when^1 = 1;");
        bad(1, SORT + "works s 1 when 1 = 1^or all;");
        bad(1, SORT + "works s 1 when 1 = 1^and all;");
        bad(1, SORT + "works s 1 when not^1 = 1;");
        bad(1, SORT + "works s 1 when 1 = 1 or^1 = 1;");
        bad(1, SORT + "works s 1 when 1 = 1 and^1 = 1;");
        good(2, SORT + "works s many*last-brings/week+most when drawn=own and kept<1;");
    }

    /** At the text's length, if it ends too soon: behind each word, number and sign of each STATEMENT. */
    private static void endsTooSoon() {
        String whole = "hours 5 ; sort s brings 1 tires 1 mind 1 pride 1 need 1 ; hat h keeps 1 least 1 looks 1 even ; person a sort s ; "
                + "person b sort s ; in a h ; pair a b ; works s min ( 1 , 2 ) * ( many - week ) when not [ 1 < 2 or all ] and 1 > last ;";
        StringBuilder text = new StringBuilder();
        int statements = 0;
        for (String token : whole.split(" ")) {
            text.append(token);
            if (token.equals(";")) {
                statements++;
                good(statements, text.toString());
                good(statements, text + " ");
            } else {
                bad(1, text + "^");
                bad(1, text + " \n^");
            }
            text.append(' ');
        }
    }

    /** FAULTS, the first along the text: what stands behind it is of no account. */
    private static void firstAlongTheText() {
        String ahead = many(6, "sort s# brings 1 tires 1 mind 1 pride 1 need 1;");
        String[] faults = {"hours ^x;", "hours ^61;", "in ^zz h;", "works sa ((((((^(1))))))) when all;", "^sort;"};
        for (int first = 0; first < 5; first++) {
            for (int second = 0; second < 5; second++) {
                bad(first + 1, ahead + faults[first] + faults[second].replace("^", ""));
            }
        }
        bad(2, "hours ^61x");
        bad(1, "hours ^x61");
        bad(3, TWO + "in ^z ?");
        bad(2, SORT.replace("1 need 1", "^1000 need 10"));
    }

    /** Opens the first tests of seven by [ or not, the others by ( or min ( or max (, as the bits tell. */
    private static List<String> opened(int tests, int bits, int all) {
        List<String> parts = new ArrayList<>();
        for (int i = 0; i < all; i++) {
            boolean other = (bits >> i & 1) == 1;
            parts.add(i < tests ? other ? "[ " : "not " : other ? "( " : i % 2 == 0 ? "min ( " : "max ( ");
        }
        return parts;
    }

    private static String closed(List<String> parts) {
        StringBuilder text = new StringBuilder();
        boolean compared = false;
        text.append('1');
        for (int i = parts.size() - 1; i >= 0; i--) {
            String part = parts.get(i);
            boolean sum = part.endsWith("( ");
            if (!sum && !compared) {
                text.append(" = 1");
                compared = true;
            }
            text.append(part.equals("( ") ? " )" : sum ? " , 2 )" : part.equals("[ ") ? " ]" : "");
        }
        return text + (compared ? ";" : " = 1;");
    }

    /** The 7th ( [ not that is open at once, at it; six may be. */
    private static void sevenOpen() {
        String ahead = SORT + "works s 1 when ";
        for (int all = 5; all <= 7; all++) {
            for (int tests = 0; tests <= all; tests++) {
                for (int bits = 0; bits < 1 << all; bits += 1 + bits % 3) {
                    List<String> parts = opened(tests, bits, all);
                    String text = String.join("", parts) + closed(parts);
                    if (all < 7) {
                        good(2, ahead + text);
                    } else {
                        int seventh = String.join("", parts.subList(0, 6)).length() + (parts.get(6).startsWith("m") ? 4 : 0);
                        bad(4, ahead + text.substring(0, seventh) + "^" + text.substring(seventh));
                    }
                }
            }
        }
    }

    /** not: until its FACT ends; ( and [ until they are closed. */
    private static void openTillItsFactEnds() {
        String six = "not not not not not not 1 = 1";
        String brackets = "[[[[[[ 1 = 1 ]]]]]]";
        String sums = "(((((( 1 )))))) = max (((((( 1 ))))), 2)";
        for (String a : new String[] {six, brackets, sums}) {
            for (String b : new String[] {six, brackets, sums}) {
                good(2, SORT + "works s 1 when " + a + " and " + b + ";");
                good(2, SORT + "works s 1 when " + a + " or " + b + ";");
            }
        }
        good(2, SORT + "works s 1 when not not not not [ not 1 = 1 and not 1 = 1 ];");
        bad(4, SORT + "works s 1 when not not not not not not ^[ all ];");
        bad(4, SORT + "works s 1 when not not not not not [ ^not all ];");
        bad(4, SORT + "works s 1 when not not not not not not 1 = ^( 1 );");
        bad(4, SORT + "works s 1 when not not not not not not 1 + 2 * min ^( 1 , 1 ) = 1;");
        good(2, SORT + "works s 1 when not not not not not not all and ( 1 ) = 1;");
        good(2, SORT + "works s 1 when [ not not not not not all ] and not not not not not not all;");
        good(2, SORT + "works s min ( ((((( 1 ))))), ((((( 1 ))))) ) + (((((( 1 )))))) when all;");
        bad(4, SORT + "works s min ( ((((( 1 ))))), (((((^( 1 )))))) ) when all;");
    }

    /** A STATEMENT, a SUM and a TEST begin with none open. */
    private static void openAnew() {
        good(3, SORT + "works s (((((( 1 )))))) when [[[[[[ all ]]]]]];works s (((((( 1 )))))) when not not not not not not all;");
        bad(4, SORT + "works s ((((((^( 1 ))))))) when all;");
        bad(4, SORT + "works s (((((( 1 )))))) when [[[[[[^[ all ]]]]]]];");
        bad(4, SORT + "works s (((((( 1 )))))) when all;works s ((((((^( 1 ))))))) when all;");
    }

    /** Places from 0 to the length of a full tape. */
    private static void placesOnAFullTape() {
        String blanks = " ".repeat(1592);
        good(1, "hours 5;" + blanks);
        good(1, blanks + "hours 5;");
        bad(1, "^?" + blanks);
        bad(1, "hours 5;" + blanks.substring(1) + "^?");
        bad(1, blanks + "hours 5 ^");
        bad(1, blanks + "   hours^");
        bad(1, blanks + "  ^hour5;");
        bad(2, blanks + "hours ^61");
        bad(5, "hours 5;".repeat(100) + " ".repeat(799) + "^;");
        bad(1, "^" + ";".repeat(1600));
        bad(1, "^" + "x".repeat(1600));
        bad(1, "hours 1111^" + "1".repeat(1590));
        bad(1, "sort abcdef^" + "a".repeat(1589));
        good(0, " ".repeat(1600));
    }
}
