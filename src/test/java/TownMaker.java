import java.util.ArrayList;
import java.util.HashSet;
import java.util.List;
import java.util.Random;
import java.util.Set;

/** Makes a town by chance: its text, and the model that is due for it. */
final class TownMaker {
    private static final Set<String> OWN = Set.of("hours", "sort", "brings", "tires", "mind", "pride", "need", "hat",
            "keeps", "least", "looks", "after", "before", "even", "share", "person", "in", "pair", "works", "when",
            "or", "and", "not", "all", "many", "week", "last", "most", "drawn", "own", "kept", "min", "max");
    private static final String[] KINDS = {"after", "before", "even", "share"};
    private static final String[] FACTS = {"many", "brings", "week", "last", "most", "drawn", "own", "kept"};

    private final Random chance;
    private final List<String> tokens = new ArrayList<>();
    private final Set<String> names = new HashSet<>();
    final Model model = new Model();
    String text;
    int statements;

    private TownMaker(Random chance) {
        this.chance = chance;
    }

    /** A town of 1600 bytes at most. */
    static TownMaker make(Random chance, long x) {
        for (;;) {
            TownMaker maker = new TownMaker(chance);
            maker.model.x = x;
            maker.fill();
            if (maker.text.length() <= 1600) {
                return maker;
            }
        }
    }

    private int upTo(int n) {
        return chance.nextInt(n + 1);
    }

    private void say(Object... parts) {
        for (Object part : parts) {
            tokens.add(part.toString());
        }
    }

    private void stop() {
        say(";");
        statements++;
    }

    private String newName() {
        for (;;) {
            StringBuilder name = new StringBuilder();
            int length = 1 + upTo(chance.nextInt(4) == 0 ? 5 : 1);
            for (int i = 0; i < length; i++) {
                name.append((char) ('a' + upTo(25)));
            }
            if (!OWN.contains(name.toString()) && names.add(name.toString())) {
                return name.toString();
            }
        }
    }

    private void fill() {
        boolean calm = chance.nextBoolean();
        int sorts = 1 + upTo(calm ? 2 : 5);
        int hats = upTo(chance.nextInt(3) == 0 ? 4 : 2);
        int people = upTo(chance.nextInt(3) == 0 ? 12 : 5);
        sayHours();
        for (int i = 0; i < sorts; i++) {
            saySort(calm);
        }
        int[][] hat = new int[4][hats];
        for (int i = 0; i < hats; i++) {
            sayHat(hat, i);
        }
        model.now.keeps = hat[0];
        model.now.least = hat[1];
        model.now.looks = hat[2];
        model.now.kind = hat[3];
        sayPeople(people, hats);
        sayPairs(people);
        int rules = upTo(chance.nextInt(4) == 0 ? 8 : 3);
        for (int i = 0; i < rules; i++) {
            sayRule(sorts);
        }
        if (chance.nextInt(6) == 0) {
            sayHours();
        }
        model.begin();
        text = written();
    }

    private void sayHours() {
        if (chance.nextInt(4) != 0) {
            model.most = chance.nextInt(4) == 0 ? upTo(60) : upTo(12);
            say("hours", model.most);
            stop();
        }
    }

    private void saySort(boolean calm) {
        String name = newName();
        int brings = upTo(99);
        int tires = upTo(calm ? 99 : 20);
        int mind = upTo(100);
        int pride = calm ? upTo(60) : upTo(999);
        int need = 1 + upTo(8);
        model.sorts.add(new Model.Sort(name, brings, tires, mind, pride, need));
        say("sort", name, "brings", brings, "tires", tires, "mind", mind, "pride", pride, "need", need);
        stop();
    }

    private void sayHat(int[][] hat, int i) {
        String name = newName();
        model.hatNames.add(name);
        hat[0][i] = chance.nextBoolean() ? 5 * upTo(20) : upTo(100);
        hat[1][i] = upTo(chance.nextBoolean() ? 8 : 60);
        hat[2][i] = upTo(100);
        hat[3][i] = upTo(3);
        say("hat", name, "keeps", hat[0][i], "least", hat[1][i], "looks", hat[2][i], KINDS[hat[3][i]]);
        stop();
    }

    private void sayPeople(int people, int hats) {
        model.now.sort = new int[people];
        model.now.hat = new int[people];
        model.now.hours = new int[people];
        model.now.mate = new int[people];
        for (int p = 0; p < people; p++) {
            String name = newName();
            model.personNames.add(name);
            model.now.sort[p] = upTo(model.sorts.size() - 1);
            model.now.hat[p] = Model.NONE;
            model.now.mate[p] = Model.NONE;
            say("person", name, "sort", model.sorts.get(model.now.sort[p]).name());
            stop();
        }
        for (int i = 0; i < people + 2 && people > 0 && hats > 0; i++) {
            int p = i < people ? i : upTo(people - 1);
            if (chance.nextInt(5) != 0) {
                model.now.hat[p] = upTo(hats - 1);
                say("in", model.personNames.get(p), model.hatNames.get(model.now.hat[p]));
                stop();
            }
        }
    }

    private void sayPairs(int people) {
        int wanted = upTo(people / 2);
        for (int i = 0; i < wanted; i++) {
            int a = upTo(people - 1);
            int b = upTo(people - 1);
            if (a != b && model.now.mate[a] == Model.NONE && model.now.mate[b] == Model.NONE) {
                model.now.mate[a] = b;
                model.now.mate[b] = a;
                model.pairs.add(new int[] {a, b});
                say("pair", model.personNames.get(a), model.personNames.get(b));
                stop();
            }
        }
    }

    private void sayRule(int sorts) {
        int sort = upTo(sorts - 1);
        say("works", model.sorts.get(sort).name());
        Model.Formula sum = sum(0);
        say("when");
        Model.Formula test = test(0);
        stop();
        model.rules.add(new Model.Rule(sort, sum, test));
    }

    // ---- tests and sums, by the document's own lines

    private boolean more(int open) {
        return chance.nextInt(4 + open) == 0;
    }

    private Model.Formula test(int open) {
        Model.Formula left = both(open);
        while (more(open)) {
            say("or");
            Model.Formula a = left;
            Model.Formula b = both(open);
            left = f -> a.of(f) != 0 || b.of(f) != 0 ? 1 : 0;
        }
        return left;
    }

    private Model.Formula both(int open) {
        Model.Formula left = fact(open);
        while (more(open)) {
            say("and");
            Model.Formula a = left;
            Model.Formula b = fact(open);
            left = f -> a.of(f) != 0 && b.of(f) != 0 ? 1 : 0;
        }
        return left;
    }

    private Model.Formula fact(int open) {
        int which = chance.nextInt(open >= 6 ? 6 : 9);
        if (which == 7) {
            say("not");
            Model.Formula a = fact(open + 1);
            return f -> a.of(f) != 0 ? 0 : 1;
        }
        if (which == 8) {
            say("[");
            Model.Formula a = test(open + 1);
            say("]");
            return a;
        }
        if (which == 0) {
            say("all");
            return f -> 1;
        }
        Model.Formula a = sum(open);
        int sign = upTo(2);
        say("<>=".substring(sign, sign + 1));
        Model.Formula b = sum(open);
        return f -> (sign == 0 ? a.of(f) < b.of(f) : sign == 1 ? a.of(f) > b.of(f) : a.of(f) == b.of(f)) ? 1 : 0;
    }

    private static long within(long value) {
        return value > 1000000 ? 1000000 : value < -1000000 ? -1000000 : value;
    }

    private Model.Formula sum(int open) {
        Model.Formula left = product(open);
        while (more(open)) {
            boolean plus = chance.nextBoolean();
            say(plus ? "+" : "-");
            Model.Formula a = left;
            Model.Formula b = product(open);
            left = f -> within(plus ? a.of(f) + b.of(f) : a.of(f) - b.of(f));
        }
        return left;
    }

    private Model.Formula product(int open) {
        Model.Formula left = piece(open);
        while (more(open)) {
            boolean times = chance.nextBoolean();
            say(times ? "*" : "/");
            Model.Formula a = left;
            Model.Formula b = piece(open);
            left = f -> times ? within(a.of(f) * b.of(f))
                    : b.of(f) == 0 ? 0 : (long) Math.floor((double) a.of(f) / b.of(f));
        }
        return left;
    }

    private Model.Formula piece(int open) {
        int which = chance.nextInt(open >= 6 ? 9 : 12);
        if (which < 4) {
            int n = chance.nextInt(5) == 0 ? upTo(9999) : upTo(12);
            say(chance.nextInt(8) == 0 ? String.format("%04d", n) : n);
            return f -> n;
        }
        if (which < 9) {
            int fact = upTo(7);
            say(FACTS[fact]);
            return f -> f[fact];
        }
        if (which == 9) {
            say("(");
            Model.Formula a = sum(open + 1);
            say(")");
            return a;
        }
        boolean least = which == 10;
        say(least ? "min" : "max", "(");
        Model.Formula a = sum(open + 1);
        say(",");
        Model.Formula b = sum(open + 1);
        say(")");
        return f -> least ? Math.min(a.of(f), b.of(f)) : Math.max(a.of(f), b.of(f));
    }

    private String written() {
        StringBuilder out = new StringBuilder();
        for (int i = 0; i < tokens.size(); i++) {
            String token = tokens.get(i);
            boolean touches = i > 0 && isWordSign(token.charAt(0)) && isWordSign(out.charAt(out.length() - 1));
            if (touches || chance.nextInt(6) == 0) {
                out.append(chance.nextInt(8) == 0 ? '\n' : ' ');
            }
            out.append(token);
        }
        return out.toString();
    }

    static boolean isWordSign(char sign) {
        return sign >= 'a' && sign <= 'z' || sign >= '0' && sign <= '9';
    }
}
