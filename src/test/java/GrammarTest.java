import java.util.ArrayList;
import java.util.Arrays;
import java.util.List;
import java.util.Random;

/** Promises 4 and 5, Terms I: changed texts have the fault, and its place, that the grammar tells. */
final class GrammarTest {
    private static final int TEXTS = 12000;
    private static final String[] WORDS = ("hours sort brings tires mind pride need hat keeps least looks after before even share person in "
            + "pair works when or and not all many week last most drawn own kept min max ; ; ; ( ) [ ] < > = + - * / , ? A "
            + "0 1 9 10 60 61 99 100 101 999 1000 9999 12345 0000 00001 a b zzzzzz zzzzzzz hourss person1 5x").split(" ");
    private static final String[] NUMBERS = "0 1 9 10 60 61 99 100 101 999 1000 9999 0000 0061 0101".split(" ");
    private static final String[] OPENED = {"(", "[", "not", "min (", "max ("};
    private final int[] kinds = new int[6];
    private Random chance;

    private GrammarTest() {
    }

    static void runAll() {
        new GrammarTest().run();
    }

    private void run() {
        chance = new Random(20261119);
        WageHats x = new WageHats();
        for (int i = 0; i < TEXTS && Check.failures() < 50; i++) {
            if (i % 5 == 0) {
                x = new WageHats();
            }
            String text = change(aText());
            if (text.length() <= 1600) {
                compare(x, text);
            }
        }
        for (int kind = 0; kind < kinds.length; kind++) {
            Check.due("many texts with fault " + kind + ": " + kinds[kind], kinds[kind] > TEXTS / 100, true);
        }
    }

    private void compare(WageHats x, String text) {
        Grammar due = new Grammar(text);
        kinds[due.kind]++;
        Check.due("town " + text, Texts.town(x, text), due.statements);
        Check.due("fault(0) of " + text, x.fault(0), due.kind);
        Check.due("fault(1) of " + text, x.fault(1), due.place);
    }

    /** A town; sometimes with so many statements more that its kinds, or all its statements, are near their ends. */
    private String aText() {
        StringBuilder text = new StringBuilder(TownMaker.make(chance, 1).text);
        int which = chance.nextInt(12);
        for (int i = 0; i < 13 && which < 4; i++) {
            text.append(new String[] {"sort u# brings 1 tires 1 mind 1 pride 1 need 1;", "hat v# keeps 1 least 1 looks 1 even;",
                "hours 1;hours 2;", "works ua 1 when all;"}[which].replace('#', (char) ('a' + i)));
        }
        if (which == 4) {
            text.append("hours 1;".repeat(100 - (int) text.chars().filter(c -> c == ';').count()));
            text.append(WORDS[chance.nextInt(WORDS.length)]);
        }
        return text.toString();
    }

    private String change(String text) {
        return chance.nextBoolean() ? changeBytes(text) : changeTokens(text);
    }

    private String changeBytes(String text) {
        StringBuilder out = new StringBuilder(text);
        for (int changes = chance.nextInt(3); changes > 0 && out.length() > 0; changes--) {
            int place = chance.nextInt(out.length());
            char sign = chance.nextInt(6) == 0 ? (char) chance.nextInt(256) : " \n;([a1z90".charAt(chance.nextInt(10));
            switch (chance.nextInt(4)) {
                case 0 -> out.insert(place, sign);
                case 1 -> out.setCharAt(place, sign);
                case 2 -> out.deleteCharAt(place);
                default -> out.setLength(place);
            }
        }
        return out.toString();
    }

    private String changeTokens(String text) {
        List<String> tokens = new ArrayList<>(Arrays.asList(text.split("[ \n]+|(?<=[^a-z0-9])|(?=[^a-z0-9])")));
        tokens.removeIf(String::isBlank);
        for (int changes = 1 + chance.nextInt(3); changes > 0 && !tokens.isEmpty(); changes--) {
            int place = chance.nextInt(tokens.size());
            String other = tokens.get(chance.nextInt(tokens.size()));
            switch (chance.nextInt(10)) {
                case 0 -> tokens.add(place, WORDS[chance.nextInt(WORDS.length)]);
                case 1 -> tokens.set(place, WORDS[chance.nextInt(WORDS.length)]);
                case 2 -> tokens.set(place, other);
                case 3 -> tokens.remove(place);
                case 4 -> repeatStatement(tokens, place);
                case 5, 6 -> otherNumber(tokens, place);
                case 7 -> tokens.set(place, tokens.get(Math.max(0, place - 1)));
                default -> open(tokens);
            }
        }
        return String.join(" ", tokens);
    }

    private void repeatStatement(List<String> tokens, int place) {
        int from = tokens.subList(0, place).lastIndexOf(";") + 1;
        int length = tokens.subList(from, tokens.size()).indexOf(";") + 1;
        tokens.addAll(new ArrayList<>(tokens.subList(from, from + length)));
    }

    private void otherNumber(List<String> tokens, int from) {
        for (int i = from; i < tokens.size(); i++) {
            if (Character.isDigit(tokens.get(i).charAt(0))) {
                tokens.set(i, NUMBERS[chance.nextInt(NUMBERS.length)]);
                return;
            }
        }
    }

    /** Opens something, up to seven times, where a sum or a fact begins; nothing closes it again. */
    private void open(List<String> tokens) {
        List<Integer> begins = new ArrayList<>();
        for (int i = 0; i < tokens.size(); i++) {
            if (List.of("when", "and", "or", "not", "[", "(", "+", "*", "=").contains(tokens.get(i))) {
                begins.add(i + 1);
            }
        }
        if (begins.isEmpty()) {
            return;
        }
        int place = begins.get(chance.nextInt(begins.size()));
        String opened = OPENED[chance.nextInt(OPENED.length)];
        String[] parts = (opened + " ").repeat(1 + chance.nextInt(7)).split(" ");
        tokens.addAll(place, Arrays.asList(parts));
    }
}
