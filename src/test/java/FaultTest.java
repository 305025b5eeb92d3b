/** Promises 4 and 5: the texts that are no towns; ^ marks the place of the fault in each. */
final class FaultTest {
    private static final String SORT = "sort s brings 1 tires 1 mind 1 pride 1 need 1;";
    private static final String HAT = "hat h keeps 1 least 1 looks 1 even;";
    private static final String TWO = SORT + HAT + "person a sort s;person b sort s;";

    private FaultTest() {
    }

    static void runAll() {
        firstBytes();
        blanksThatMiss();
        tooSoon();
        namesThatAreNone();
        numbers();
        names();
        opens();
        tooMany();
        testsAndSums();
        goodTexts();
    }

    static void bad(int kind, String marked) {
        int place = marked.indexOf('^');
        String text = marked.substring(0, place) + marked.substring(place + 1);
        WageHats x = new WageHats();
        Check.due("town " + marked, Texts.town(x, text), -1);
        Check.due("town " + marked + " fault(0)", x.fault(0), kind);
        Check.due("town " + marked + " fault(1)", x.fault(1), place);
    }

    static void good(int statements, String text) {
        WageHats x = new WageHats();
        Check.due("town " + text, Texts.town(x, text), statements);
        Check.due("town " + text + " fault(0)", x.fault(0), 0);
        Check.due("town " + text + " fault(1)", x.fault(1), -1);
    }

    private static void firstBytes() {
        bad(1, "^;");
        bad(1, "^x;");
        bad(1, "^5;");
        bad(1, "^brings 5;");
        bad(1, "^hour 5;");
        bad(1, "^hourss 5;");
        bad(1, "^hoursss 5;");
        bad(1, "^Hours 5;");
        bad(1, "^hOurs 5;");
        bad(1, "hours^\t5;");
        bad(1, "hours^\r5;");
        bad(1, "hours ^;");
        bad(1, "hours ^five;");
        bad(1, "hours ^-5;");
        bad(1, "hours 5 ^5;");
        bad(1, "hours 5 ^hours 5;");
        bad(1, "hours 5;^;");
        bad(1, "hours 5;\n^\u00e9");
        bad(1, "hours 5;^\u0000");
        bad(1, "sort s ^tires 5");
        bad(1, "sort s brings 1 ^mind 5");
        bad(1, "sort s brings 1 tires 1 ^brings 1");
        bad(1, "hat h keeps 1 least 1 looks 1 ^evens;");
        bad(1, "hat h keeps 1 least 1 looks 1 share^1;");
        bad(1, "hat h keeps 1 least 1 looks 1 ^looks;");
        bad(1, "hat h keeps 1 least 1 looks 1 ^person;");
        bad(1, "hat h keeps 1 least 1 looks 1 ^;");
        bad(1, SORT + "person a ^hat s;");
        bad(1, SORT + "person a sort s ^s;");
        bad(1, TWO + "in a h ^h;");
        bad(1, TWO + "pair a b ^a;");
    }

    private static void blanksThatMiss() {
        bad(1, "hours^5;");
        bad(1, "hours^99;");
        bad(1, "hours^99999;");
        bad(1, "sort s brings 1^tires 1");
        bad(1, "sort s brings 1 tires 1 mind 1 pride 1^need 1");
        bad(1, "hat h keeps 1 least 1 looks 1^even;");
        bad(1, "sort s^1 brings 1");
        bad(1, SORT + "works s 1^when all;");
        bad(1, SORT + "works s^1 when all;");
        bad(1, SORT + "works s 1 when^1 < 2;");
        bad(1, SORT + "works s 1 when not^1 < 2;");
        bad(1, SORT + "works s 1 when 1 < 2^and all;");
        bad(1, SORT + "works s 1 when 1 < 2^or all;");
        bad(1, SORT + "works s 1 when all and^2 < 3;");
        bad(1, SORT + "works s 1 when all^2;");
        bad(1, SORT + "works s 1 when ^allor all;");
    }

    private static void tooSoon() {
        bad(1, "hours^");
        bad(1, "hours ^");
        bad(1, "hours \n ^");
        bad(1, "hours 5^");
        bad(1, "hours 5 ^");
        bad(1, "sort^");
        bad(1, "sort ab^");
        bad(1, "sort abcdef^");
        bad(1, "hours 5;^so");
        bad(1, "hours 5;sort s ^brin");
        bad(1, "hat h keeps 1 least 1 looks 1^");
        bad(1, "hat h keeps 1 least 1 looks 1 share^");
        bad(1, SORT + "person a sort^");
        bad(1, TWO + "in a^");
        bad(1, TWO + "pair a^");
        bad(1, SORT + "works^");
        bad(1, SORT + "works s^");
        bad(1, SORT + "works s 1^");
        bad(1, SORT + "works s 1 when^");
        bad(1, SORT + "works s 1 when 1^");
        bad(1, SORT + "works s 1 when 1 <^");
        bad(1, SORT + "works s 1 when 1 < 1 +^");
        bad(1, SORT + "works s 1 when not^");
        bad(1, SORT + "works s 1 when [ all^");
        bad(1, SORT + "works s 1 when [ all ]^");
        bad(1, SORT + "works s min^");
        bad(1, SORT + "works s min (^");
        bad(1, SORT + "works s min ( 1 , 1^");
    }

    private static void namesThatAreNone() {
        String own = "hours sort brings tires mind pride need hat keeps least looks after before even share person in "
                + "pair works when or and not all many week last most drawn own kept min max";
        for (String word : own.split(" ")) {
            bad(1, "sort ^" + word + " brings");
            bad(1, "hat ^" + word + " keeps");
            bad(1, TWO + "in ^" + word + " h");
            bad(1, TWO + "in a ^" + word + ";");
            String alike = word.substring(0, Math.min(5, word.length())) + "x";
            good(1, "sort " + alike + " brings 1 tires 1 mind 1 pride 1 need 1;");
        }
        bad(1, "sort ^;");
        bad(1, "sort ^5;");
        bad(1, "sort ^Ab brings");
        bad(1, "sort a^B brings");
        bad(1, "sort abcdef^g brings");
        bad(1, "sort abcdef^ghijk brings");
        bad(1, "sort person^s brings");
        bad(1, "hat abcdef^g keeps");
        bad(1, "person abcdef^g sort");
        bad(1, TWO + "in abcdef^g h");
        bad(1, TWO + "pair a abcdef^g;");
        bad(1, TWO + "works abcdef^g 1");
    }

    private static void numbers() {
        bad(2, "hours ^61;");
        bad(2, "hours ^0061;");
        bad(2, "hours ^9999;");
        bad(2, "hours ^61x;");
        bad(1, "hours 1000^0;");
        bad(1, "hours 0000^000;");
        bad(2, "sort s brings ^100 tires 1");
        bad(2, "sort s brings 1 tires ^100 mind");
        bad(2, "sort s brings 1 tires 1 mind ^101 pride");
        bad(2, "sort s brings 1 tires 1 mind 1 pride ^1000 need");
        bad(2, "sort s brings 1 tires 1 mind 1 pride 1 need ^0;");
        bad(2, "sort s brings 1 tires 1 mind 1 pride 1 need ^10;");
        bad(2, "hat h keeps ^101 least");
        bad(2, "hat h keeps 1 least ^61 looks");
        bad(2, "hat h keeps 1 least 1 looks ^101 even");
        bad(1, "sort s brings 1234^5 tires 1");
        bad(1, SORT + "works s 1234^5 when all;");
        good(1, "hours 60;");
        good(1, "hours 0060;");
        good(1, "hours 0;");
        good(2, "sort s brings 99 tires 99 mind 100 pride 999 need 9;hat h keeps 100 least 60 looks 100 even;");
        good(2, "sort s brings 0 tires 0 mind 0 pride 0 need 1;hat h keeps 0 least 0 looks 0 even;");
        good(2, SORT + "works s 9999 when 0000 < 9999;");
    }

    private static void names() {
        bad(3, SORT + "sort ^s brings 1");
        bad(3, SORT + "hat ^s keeps 1");
        bad(3, SORT + "person ^s sort s;");
        bad(3, HAT + "sort ^h brings 1");
        bad(3, HAT + "hat ^h keeps 1");
        bad(3, TWO + "sort ^a brings 1");
        bad(3, TWO + "hat ^a keeps 1");
        bad(3, TWO + "person ^a sort s;");
        bad(3, TWO + "person ^h sort s;");
        bad(3, "person a sort ^s;" + SORT);
        bad(3, SORT + "person a sort ^a;");
        bad(3, SORT + HAT + "person a sort ^h;");
        bad(3, TWO + "person c sort ^b;");
        bad(3, TWO + "in ^c h;");
        bad(3, TWO + "in ^h a;");
        bad(3, TWO + "in ^s h;");
        bad(3, TWO + "in a ^b;");
        bad(3, TWO + "in a ^s;");
        bad(3, TWO + "in a ^g;");
        bad(3, TWO + "pair a ^a;");
        bad(3, TWO + "pair ^c a;");
        bad(3, TWO + "pair ^h a;");
        bad(3, TWO + "pair a ^h;");
        bad(3, TWO + "pair a b;pair ^a b;");
        bad(3, TWO + "pair a b;pair ^b a;");
        bad(3, TWO + "person c sort s;pair a b;pair c ^b;");
        bad(3, TWO + "person c sort s;pair a b;pair ^a c;");
        bad(3, TWO + "works ^a 1 when all;");
        bad(3, TWO + "works ^h 1 when all;");
        bad(3, TWO + "works ^ss 1 when all;");
        bad(3, TWO + "in ^aa h;");
        good(6, TWO + "person ab sort s;person ba sort s;");
        good(8, TWO + "person c sort s;person d sort s;pair a d;pair c b;");
    }

    private static String rule(String test) {
        return SORT + "works s 1 when " + test + ";";
    }

    private static void opens() {
        good(2, rule("not not not not not not all"));
        bad(4, rule("not not not not not not ^not all"));
        good(2, rule("[[[[[[all]]]]]]"));
        bad(4, rule("[[[[[[^[all]]]]]]]"));
        good(2, rule("((((((1)))))) < 2"));
        bad(4, rule("((((((^(1))))))) < 2"));
        good(2, rule("[not [not (min (1, 2)) < 3]]"));
        good(2, rule("not [not (min (max (1, 2), 2)) < 3]"));
        bad(4, rule("not [not (min (max (^(1), 2), 2)) < 3]"));
        bad(4, rule("not [not (min (max (1, ^(2)), 2)) < 3]"));
        bad(4, rule("not [not (min (max (1, 2), max (min ^(1, 2), 2))) < 3]"));
        bad(4, rule("not [not [not [^not all]]]"));
        good(2, rule("not [not [not all] and not [not all and not all]]"));
        good(2, rule("not all and not all and not all or not all or not all and not all or not all"));
        good(2, rule("not 1 < 2 and not 1 < 2 or not 1 < 2 and not 1 < 2 and not 1 < 2 and not 1 < 2 and not 1 < 2"));
        good(2, rule("not not not not not (1) < (2)"));
        bad(4, rule("not not not not not (^(1) < 2"));
        bad(4, rule("not not not not not not 1 < ^(2)"));
        good(2, rule("not not not not not not 1 < 2 and (2) = 2 and not [all]"));
        bad(4, SORT + "works s ((((((^(1))))))) when all;");
        good(2, SORT + "works s ((((((1)))))) + ((((((1)))))) when ((((((1)))))) = 1;");
        bad(1, rule("((((((^[1))))))) < 2"));
        bad(1, rule("[[[[[(1) ^and 1]]]]]"));
        bad(4, rule("[[[[[[^(1) < 1]]]]]]"));
        bad(1, rule("not not not not not not min ^1"));
    }

    private static void tooMany() {
        StringBuilder text = new StringBuilder();
        for (int i = 0; i < 6; i++) {
            text.append("sort s").append((char) ('a' + i)).append(" brings 1 tires 1 mind 1 pride 1 need 1;");
        }
        String sorts = text.toString();
        good(6, sorts);
        bad(5, sorts + " ^sort x brings 1 tires 1 mind 1 pride 1 need 1;");
        bad(5, sorts + "^sort;");
        bad(5, sorts + "^sort");
        bad(5, sorts + "^sort sa brings");
        bad(1, sorts + "^sortx x brings");
        text.setLength(0);
        for (int i = 0; i < 4; i++) {
            text.append("hat h").append((char) ('a' + i)).append(" keeps 1 least 1 looks 1 even;");
        }
        good(4, text.toString());
        bad(5, text + "hours 5;\n^hat x keeps 1 least 1 looks 1 even;");
        text.setLength(0);
        text.append(SORT);
        for (int i = 0; i < 12; i++) {
            text.append("person p").append((char) ('a' + i)).append(" sort s;");
        }
        good(13, text.toString());
        bad(5, text + "^person x sort s;");
        text.setLength(0);
        text.append(SORT);
        for (int i = 0; i < 12; i++) {
            text.append("works s 1 when all;");
        }
        good(13, text.toString());
        bad(5, text + "^works s 1 when all;");
        bad(5, text + "^works 99999");
        String hundred = "hours 5;".repeat(100);
        good(100, hundred);
        good(100, hundred + " \n ");
        bad(5, hundred + " ^hours 5;");
        bad(5, hundred + "^;");
        bad(5, hundred + " ^?");
        bad(5, hundred + "^x");
        bad(5, hundred + "^hours 99");
        bad(1, "hours 5;".repeat(99) + "^x");
    }

    private static void testsAndSums() {
        good(2, "\n" + SORT + " \nworks\ns 1+2*3-4/5 when 1<2 and 2>1 or[all]and not[1=2];\n");
        good(2, SORT + "works s(1)when(1)<(2)and[all];");
        good(2, SORT + "works s min(1,2)when max(1,2)=2;");
        good(2, SORT + "works s many+brings-week*last/most+drawn+own+kept when many=1;");
        bad(1, SORT + "works s ^all when all;");
        bad(1, SORT + "works s ^[1] when all;");
        bad(1, SORT + "works s ^when all;");
        bad(1, SORT + "works s ^x when all;");
        bad(1, SORT + "works s ^abcdefgh when all;");
        bad(1, SORT + "works s 1 + ^when all;");
        bad(1, SORT + "works s ^- 1 when all;");
        bad(1, SORT + "works s 1 ^< 2 when all;");
        bad(1, SORT + "works s ( 1 ^; when all;");
        bad(1, SORT + "works s 1 ^) when all;");
        bad(1, SORT + "works s min ^1 when all;");
        bad(1, SORT + "works s min ^when all;");
        bad(1, SORT + "works s max ^+ 1 when all;");
        bad(1, SORT + "works s 1 when min ^< 1;");
        bad(1, SORT + "works s min ( 1 ^) when all;");
        bad(1, SORT + "works s min ( 1 , 2 ^, 3 ) when all;");
        bad(1, SORT + "works s min^1 ( 1 , 2 ) when all;");
        bad(1, SORT + "works s ( 1 ^, 2 ) when all;");
        bad(1, SORT + "works s 1 when ^;");
        bad(1, SORT + "works s 1 when ^when;");
        bad(1, SORT + "works s 1 when 1 ^;");
        bad(1, SORT + "works s 1 when 1 < 2 ^< 3;");
        bad(1, SORT + "works s 1 when 1 <^= 2;");
        bad(1, SORT + "works s 1 when all ^all;");
        bad(1, SORT + "works s 1 when all ^not all;");
        bad(1, SORT + "works s 1 when all ^= all;");
        bad(1, SORT + "works s 1 when all ^];");
        bad(1, SORT + "works s 1 when [ all ^;");
        bad(1, SORT + "works s 1 when [ all ^);");
        bad(1, SORT + "works s 1 when [ 1 ^] ;");
        bad(1, SORT + "works s 1 when ( ^all ) ;");
        bad(1, SORT + "works s 1 when ( 1 ^< 2 );");
        bad(1, SORT + "works s 1 when 1 = ^not 1;");
        bad(1, SORT + "works s 1 when ^and all;");
        bad(1, SORT + "works s 1 when all and ^;");
        bad(1, SORT + "works s 1 when all or ^or all;");
    }

    private static void goodTexts() {
        good(0, "");
        good(0, " \n ");
        good(1, "hours 5;");
        good(1, " hours\n5 ; ");
        good(3, "hours 5;hours 0;hours 60;");
        good(1, "hat h keeps 0 least 0 looks 0 after;");
        good(1, "hat h keeps 0 least 0 looks 0 before;");
        good(5, TWO + "in a h;");
        good(6, TWO + "in a h;in a h;");
        good(1, "sort zzzzzz brings 1 tires 1 mind 1 pride 1 need 1;");
    }
}
