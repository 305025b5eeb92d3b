import java.util.ArrayList;
import java.util.HashSet;
import java.util.LinkedHashSet;
import java.util.List;
import java.util.Set;

/**
 * The document's grammar, line by line, with a recogniser for any grammar (Earley's): it tells the first token with
 * which no TOWN goes on. What names and numbers may be is looked at afterwards, along the tokens ahead of that one.
 * It shares no code and no way of working with the program's reader.
 */
final class Grammar {
    private static final String[] LINES = {
        "TOWN :", "TOWN : TOWN STATEMENT ;",
        "STATEMENT : hours N",
        "STATEMENT : sort NAME brings N tires N mind N pride N need N",
        "STATEMENT : hat NAME keeps N least N looks N KIND",
        "KIND : after", "KIND : before", "KIND : even", "KIND : share",
        "STATEMENT : person NAME sort NAME",
        "STATEMENT : in NAME NAME",
        "STATEMENT : pair NAME NAME",
        "STATEMENT : works NAME SUM when TEST",
        "TEST : BOTH", "TEST : TEST or BOTH",
        "BOTH : FACT", "BOTH : BOTH and FACT",
        "FACT : not FACT", "FACT : [ TEST ]", "FACT : all",
        "FACT : SUM < SUM", "FACT : SUM > SUM", "FACT : SUM = SUM",
        "SUM : PRODUCT", "SUM : SUM + PRODUCT", "SUM : SUM - PRODUCT",
        "PRODUCT : PART", "PRODUCT : PRODUCT * PART", "PRODUCT : PRODUCT / PART",
        "PART : N", "PART : many", "PART : brings", "PART : week", "PART : last", "PART : most", "PART : drawn",
        "PART : own", "PART : kept", "PART : ( SUM )", "PART : min ( SUM , SUM )", "PART : max ( SUM , SUM )",
    };
    private static final String[][] RULES = new String[LINES.length][];
    private static final Set<String> OWN = new HashSet<>();

    static {
        for (int i = 0; i < LINES.length; i++) {
            RULES[i] = LINES[i].split(" ");
            for (int k = 2; k < RULES[i].length; k++) {
                if (isLetter(RULES[i][k].charAt(0))) {
                    OWN.add(RULES[i][k]);
                }
            }
        }
    }

    /** A rule read up to its dot, begun at a token. */
    private record Item(int rule, int dot, int begun) {
        String next() {
            return dot < RULES[rule].length ? RULES[rule][dot] : null;
        }

        Item further() {
            return new Item(rule, dot + 1, begun);
        }
    }

    private record Token(String text, int place, boolean touches) {
        boolean isWord() {
            return isLetter(text.charAt(0));
        }

        boolean isNumber() {
            return isDigit(text.charAt(0));
        }

        boolean fits(String asked) {
            if (touches) {
                return false;
            }
            if (asked.equals("NAME")) {
                return isWord() && text.length() <= 6 && !OWN.contains(text);
            }
            return asked.equals("N") ? isNumber() && text.length() <= 4 : text.equals(asked);
        }
    }

    private final String text;
    private final List<Token> tokens = new ArrayList<>();
    private int bad;
    int kind;
    int place = -1;
    int statements;

    Grammar(String text) {
        this.text = text;
        cut();
        recognise();
        lookAlong();
        if (kind != 0) {
            statements = -1;
        }
    }

    private static boolean isLetter(char c) {
        return "abcdefghijklmnopqrstuvwxyz".indexOf(c) >= 0;
    }

    private static boolean isDigit(char c) {
        return "0123456789".indexOf(c) >= 0;
    }

    private void cut() {
        int i = 0;
        boolean afterWord = false;
        while (i < text.length()) {
            char c = text.charAt(i);
            int from = i;
            while (i < text.length() && (isLetter(c) && isLetter(text.charAt(i)) || isDigit(c) && isDigit(text.charAt(i)))) {
                i++;
            }
            boolean word = i > from;
            i = Math.max(i, from + 1);
            if (c != 32 && c != 10) {
                tokens.add(new Token(text.substring(from, i), from, word && afterWord));
            }
            afterWord = word;
        }
    }

    private void fail(int what, int where) {
        if (kind == 0 || where < place) {
            kind = what;
            place = where;
        }
    }

    // ---- the first token with which no TOWN goes on

    private void recognise() {
        List<Set<Item>> sets = new ArrayList<>();
        Set<Item> first = new LinkedHashSet<>();
        first.add(new Item(0, 2, 0));
        first.add(new Item(1, 2, 0));
        sets.add(complete(first, sets, 0));
        for (bad = 0; bad < tokens.size(); bad++) {
            Set<Item> next = new LinkedHashSet<>();
            for (Item item : sets.get(bad)) {
                if (item.next() != null && tokens.get(bad).fits(item.next())) {
                    next.add(item.further());
                }
            }
            if (next.isEmpty()) {
                failAtToken(asked(sets.get(bad)));
                return;
            }
            sets.add(complete(next, sets, bad + 1));
        }
        for (Item item : sets.get(bad)) {
            if (item.next() == null && item.begun() == 0 && RULES[item.rule()][0].equals("TOWN")) {
                return;
            }
        }
        fail(1, text.length());
    }

    private static Set<Item> complete(Set<Item> begun, List<Set<Item>> sets, int at) {
        List<Item> all = new ArrayList<>(begun);
        Set<Item> known = new LinkedHashSet<>(begun);
        for (int i = 0; i < all.size(); i++) {
            Item item = all.get(i);
            List<Item> more = new ArrayList<>();
            if (item.next() == null) {
                for (Item waiting : item.begun() == at ? known : sets.get(item.begun())) {
                    if (RULES[item.rule()][0].equals(waiting.next())) {
                        more.add(waiting.further());
                    }
                }
            } else {
                for (int rule = 0; rule < RULES.length; rule++) {
                    if (RULES[rule][0].equals(item.next())) {
                        more.add(new Item(rule, 2, at));
                    }
                }
            }
            for (Item another : more) {
                if (known.add(another)) {
                    all.add(another);
                }
            }
        }
        return known;
    }

    private static Set<String> asked(Set<Item> items) {
        Set<String> all = new HashSet<>();
        for (Item item : items) {
            if (item.next() != null) {
                all.add(item.next());
            }
        }
        return all;
    }

    private void failAtToken(Set<String> asked) {
        Token token = tokens.get(bad);
        int further = 0;
        if (!token.touches() && token.isWord() && asked.contains("NAME") && token.text().length() > 6) {
            further = 6;
        } else if (!token.touches() && token.isNumber() && asked.contains("N") && token.text().length() > 4) {
            further = 4;
        }
        fail(1, token.place() + further);
    }

    // ---- names, numbers, what is open, how many of a kind: along the tokens ahead of it

    private final List<String> sorts = new ArrayList<>();
    private final List<String> hats = new ArrayList<>();
    private final List<String> persons = new ArrayList<>();
    private final Set<String> paired = new HashSet<>();
    private int rules;

    private void lookAlong() {
        int from = 0;
        for (int i = 0; i <= bad; i++) {
            boolean begins = i == from && i < tokens.size();
            if (begins && statements == 100) {
                kind = 5;
                place = tokens.get(i).place();
                return;
            }
            if (i == bad) {
                look(from, bad);
            } else if (tokens.get(i).text().equals(";")) {
                look(from, i);
                from = i + 1;
                statements++;
            }
            if (kind != 0 && i < bad && place <= tokens.get(i).place()) {
                return;
            }
        }
    }

    private void look(int from, int behind) {
        if (from >= behind) {
            return;
        }
        switch (tokens.get(from).text()) {
            case "hours" -> number(from + 1, behind, 0, 60);
            case "sort" -> lookAtSort(from, behind);
            case "hat" -> lookAtHat(from, behind);
            case "person" -> {
                count(from, persons.size(), 12);
                given(from + 1, behind, persons);
                known(from + 3, behind, sorts);
            }
            case "in" -> {
                known(from + 1, behind, persons);
                known(from + 2, behind, hats);
            }
            case "pair" -> {
                single(from + 1, behind);
                single(from + 2, behind);
            }
            default -> {
                count(from, rules, 12);
                rules++;
                known(from + 1, behind, sorts);
                open(from + 2, behind);
            }
        }
    }

    private void lookAtSort(int from, int behind) {
        count(from, sorts.size(), 6);
        given(from + 1, behind, sorts);
        number(from + 3, behind, 0, 99);
        number(from + 5, behind, 0, 99);
        number(from + 7, behind, 0, 100);
        number(from + 9, behind, 0, 999);
        number(from + 11, behind, 1, 9);
    }

    private void lookAtHat(int from, int behind) {
        count(from, hats.size(), 4);
        given(from + 1, behind, hats);
        number(from + 3, behind, 0, 100);
        number(from + 5, behind, 0, 60);
        number(from + 7, behind, 0, 100);
    }

    private void count(int at, int there, int most) {
        if (there >= most) {
            fail(5, tokens.get(at).place());
        }
    }

    private void number(int at, int behind, int least, int most) {
        if (at < behind) {
            int n = Integer.parseInt(tokens.get(at).text());
            if (n < least || n > most) {
                fail(2, tokens.get(at).place());
            }
        }
    }

    private void given(int at, int behind, List<String> into) {
        if (at < behind) {
            String name = tokens.get(at).text();
            if (sorts.contains(name) || hats.contains(name) || persons.contains(name)) {
                fail(3, tokens.get(at).place());
            }
            into.add(name);
        }
    }

    private void known(int at, int behind, List<String> among) {
        if (at < behind && !among.contains(tokens.get(at).text())) {
            fail(3, tokens.get(at).place());
        }
    }

    private void single(int at, int behind) {
        known(at, behind, persons);
        if (at < behind && !paired.add(tokens.get(at).text())) {
            fail(3, tokens.get(at).place());
        }
    }

    /** A not is open until its FACT ends: ahead of and, or, ] and ; none is open at the end of the row. */
    private void open(int from, int behind) {
        StringBuilder row = new StringBuilder();
        for (int i = from; i < behind; i++) {
            String token = tokens.get(i).text();
            if (token.equals("and") || token.equals("or") || token.equals("]")) {
                closeNots(row);
            }
            if (token.equals("(") || token.equals("[") || token.equals("not")) {
                row.append(token.charAt(0));
                if (row.length() > 6) {
                    fail(4, tokens.get(i).place());
                    return;
                }
            } else if (token.equals(")") || token.equals("]")) {
                row.setLength(row.length() - 1);
            }
        }
    }

    private static void closeNots(StringBuilder row) {
        while (row.length() > 0 && row.charAt(row.length() - 1) == 'n') {
            row.setLength(row.length() - 1);
        }
    }
}
