import java.util.ArrayList;
import java.util.Arrays;
import java.util.List;

/**
 * The document again, in its plainest form and without any care for speed: the random runs of
 * ModelTest ask it what is due. It shares no code with the program.
 */
final class Model {
    static final int NONE = -1;
    static final long NOTHING = -1000000000L;

    /** A sum or a test by the eight facts: many brings week last most drawn own kept. */
    interface Formula {
        long of(long[] facts);
    }

    record Sort(String name, long brings, long tires, long mind, long pride, long need) {
    }

    record Rule(int sort, Formula sum, Formula test) {
    }

    /** Who is where and works how much, and how the hats are: what a question may change for itself. */
    static final class State {
        int[] sort;
        int[] hat;
        int[] hours;
        int[] mate;
        int[] keeps;
        int[] least;
        int[] looks;
        int[] kind;

        State same() {
            State s = new State();
            s.sort = sort.clone();
            s.hat = hat.clone();
            s.hours = hours.clone();
            s.mate = mate.clone();
            s.keeps = keeps.clone();
            s.least = least.clone();
            s.looks = looks.clone();
            s.kind = kind.clone();
            return s;
        }
    }

    int most = 40;
    List<Sort> sorts = new ArrayList<>();
    List<String> hatNames = new ArrayList<>();
    List<String> personNames = new ArrayList<>();
    List<int[]> pairs = new ArrayList<>();
    List<Rule> rules = new ArrayList<>();
    State now = new State();
    long x = 1;
    int weeks;
    long lost;
    long[] drawn = new long[0];
    long[] paid = new long[0];
    int[] slipOf = new int[0];
    int[] said = new int[0];

    Model() {
        now.sort = new int[0];
        now.hat = new int[0];
        now.hours = new int[0];
        now.mate = new int[0];
        now.keeps = new int[0];
        now.least = new int[0];
        now.looks = new int[0];
        now.kind = new int[0];
    }

    /** To be called when the town's lists and its state are filled. */
    void begin() {
        int n = now.hat.length;
        drawn = new long[n];
        paid = new long[n];
        slipOf = new int[n];
        said = new int[n];
        Arrays.fill(slipOf, NONE);
        Arrays.fill(said, NONE);
        weeks = 0;
        lost = 0;
    }

    int people() {
        return now.hat.length;
    }

    int hats() {
        return now.keeps.length;
    }

    boolean isPerson(int p) {
        return p >= 0 && p < people();
    }

    boolean isHat(int h) {
        return h >= 0 && h < hats();
    }

    boolean isWork(int hours) {
        return hours >= 0 && hours <= most;
    }

    // ---- what the words mean

    static long floor(long a, long b) {
        return Math.floorDiv(a, b);
    }

    long earned(State s, int p) {
        return s.hours[p] * sorts.get(s.sort[p]).brings();
    }

    long slip(State s, int p) {
        return s.hat[p] == NONE ? 0 : floor(earned(s, p) * (100 - s.keeps[s.hat[p]]), 100);
    }

    long kept(State s, int p) {
        return earned(s, p) - slip(s, p);
    }

    List<Integer> in(State s, int h) {
        List<Integer> list = new ArrayList<>();
        for (int p = 0; p < s.hat.length; p++) {
            if (s.hat[p] == h) {
                list.add(p);
            }
        }
        return list;
    }

    long sum(State s, int h) {
        return in(s, h).stream().mapToLong(p -> slip(s, p)).sum();
    }

    long needs(State s, int h) {
        return in(s, h).stream().mapToLong(p -> sorts.get(s.sort[p]).need()).sum();
    }

    long mean(State s, int h) {
        long n = in(s, h).size();
        return n == 0 ? 0 : floor(100 * sum(s, h), n);
    }

    long spread(State s, int h) {
        long n = in(s, h).size();
        if (n == 0) {
            return 0;
        }
        long sum = sum(s, h);
        long apart = in(s, h).stream().mapToLong(p -> Math.abs(n * slip(s, p) - sum)).sum();
        return floor(100 * apart, n * n);
    }

    long worth(State s, int p) {
        Sort sort = sorts.get(s.sort[p]);
        long worth = 100 * kept(s, p) - sort.tires() * s.hours[p] * s.hours[p];
        int h = s.hat[p];
        if (h == NONE) {
            return worth;
        }
        long comes = comes(s, p, h);
        if (s.hours[p] < s.least[h]) {
            comes = floor(comes * (100 - s.looks[h]), 100);
        }
        long top = in(s, h).stream().filter(q -> q != p).mapToLong(q -> s.hours[q]).max().orElse(0);
        return worth + comes - sort.pride() * Math.max(0, top - s.hours[p]);
    }

    private long comes(State s, int p, int h) {
        Sort sort = sorts.get(s.sort[p]);
        switch (s.kind[h]) {
            case 0:
            case 1:
                boolean both = s.mate[p] != NONE && s.hat[s.mate[p]] == h;
                long spread = both ? floor(spread(s, h), 2) : spread(s, h);
                return mean(s, h) - floor(sort.mind() * spread, 100);
            case 2:
                return mean(s, h);
            default:
                return floor(100 * sum(s, h) * sort.need(), needs(s, h));
        }
    }

    long worthWith(State s, int p, int hours) {
        State other = s.same();
        other.hours[p] = hours;
        return worth(other, p);
    }

    long worthAt(State s, int p, int place) {
        State other = s.same();
        other.hat[p] = place;
        return worth(other, p);
    }

    int best(State s, int p) {
        int best = 0;
        for (int h = 1; h <= most; h++) {
            if (worthWith(s, p, h) > worthWith(s, p, best)) {
                best = h;
            }
        }
        return best;
    }

    boolean round(State s) {
        boolean changed = false;
        for (int p = 0; p < s.hat.length; p++) {
            int best = best(s, p);
            changed |= best != s.hours[p];
            s.hours[p] = best;
        }
        return changed;
    }

    State settled(State s) {
        for (int i = 0; i < 60; i++) {
            if (!round(s)) {
                break;
            }
        }
        return s;
    }

    long worths(State s) {
        long all = 0;
        for (int p = 0; p < s.hat.length; p++) {
            all += worth(s, p);
        }
        return all;
    }

    // ---- the town

    long has(int what) {
        return switch (what) {
            case 0 -> sorts.size();
            case 1 -> hats();
            case 2 -> people();
            case 3 -> pairs.size();
            case 4 -> rules.size();
            case 5 -> most;
            case 6 -> weeks;
            case 7 -> lost;
            case 8 -> in(now, NONE).size();
            default -> NONE;
        };
    }

    long letter(int kind, int which, int k) {
        List<String> names = switch (kind) {
            case 0 -> sorts.stream().map(Sort::name).toList();
            case 1 -> hatNames;
            case 2 -> personNames;
            default -> List.of();
        };
        if (which < 0 || which >= names.size() || k < 0 || k > 5) {
            return NONE;
        }
        String name = names.get(which);
        return k < name.length() ? name.charAt(k) - 'a' + 1 : 0;
    }

    long person(int p, int what) {
        if (!isPerson(p)) {
            return NONE;
        }
        return switch (what) {
            case 0 -> now.sort[p];
            case 1 -> now.hat[p];
            case 2 -> now.hours[p];
            case 3 -> now.mate[p];
            case 4 -> earned(now, p);
            case 5 -> slip(now, p);
            case 6 -> kept(now, p);
            case 7 -> drawn[p];
            case 8 -> paid[p];
            case 9 -> best(now, p);
            default -> NONE;
        };
    }

    long hat(int h, int what) {
        if (!isHat(h)) {
            return NONE;
        }
        return switch (what) {
            case 0 -> now.keeps[h];
            case 1 -> now.least[h];
            case 2 -> now.looks[h];
            case 3 -> now.kind[h];
            case 4 -> in(now, h).size();
            case 5 -> sum(now, h);
            case 6 -> mean(now, h);
            case 7 -> spread(now, h);
            default -> NONE;
        };
    }

    long put(int p, int hours) {
        if (!isPerson(p) || !isWork(hours)) {
            return NONE;
        }
        int old = now.hours[p];
        now.hours[p] = hours;
        return old;
    }

    boolean move(int p, int h) {
        if (!isPerson(p) || h != NONE && !isHat(h) || now.hat[p] == h) {
            return false;
        }
        now.hat[p] = h;
        return true;
    }

    long keep(int h, int keeps) {
        if (!isHat(h) || keeps < 0 || keeps > 100) {
            return NONE;
        }
        int old = now.keeps[h];
        now.keeps[h] = keeps;
        return old;
    }

    // ---- what it is worth

    long worth(int p, int hours) {
        if (!isPerson(p) || hours != NONE && !isWork(hours)) {
            return NOTHING;
        }
        return hours == NONE ? worth(now, p) : worthWith(now, p, hours);
    }

    long all() {
        return worths(now);
    }

    long rest(int n) {
        if (n < 1 || n > 60) {
            return NONE;
        }
        for (int i = 1; i <= n; i++) {
            if (!round(now)) {
                return i;
            }
        }
        return -2;
    }

    long proof() {
        long most = 0;
        for (int p = 0; p < people(); p++) {
            most = Math.max(most, worthWith(now, p, best(now, p)) - worth(now, p));
        }
        return most;
    }

    // ---- hats

    long part(int h, int what) {
        if (!isHat(h) || what < 0 || what > 1) {
            return NOTHING;
        }
        long[] found = {0, Long.MIN_VALUE};
        for (int keeps = 0; keeps <= 100; keeps += 5) {
            State s = now.same();
            s.keeps[h] = keeps;
            long worths = worths(settled(s));
            if (worths > found[1]) {
                found[0] = keeps;
                found[1] = worths;
            }
        }
        return found[what];
    }

    long look(int h) {
        if (!isHat(h)) {
            return NONE;
        }
        for (int looks = 0; looks <= 100; looks++) {
            State s = now.same();
            s.looks[h] = looks;
            settled(s);
            if (in(s, h).stream().allMatch(p -> s.hours[p] >= s.least[h])) {
                return looks;
            }
        }
        return NONE;
    }

    private State crowd(int sort, int h, int n) {
        State s = now.same();
        s.sort = new int[n];
        s.hat = new int[n];
        s.hours = new int[n];
        s.mate = new int[n];
        Arrays.fill(s.sort, sort);
        Arrays.fill(s.hat, h);
        Arrays.fill(s.mate, NONE);
        return settled(s);
    }

    long size(int sort, int h, int n, int what) {
        if (sort < 0 || sort >= sorts.size() || !isHat(h) || n < 1 || n > 20 || what < 0 || what > 1) {
            return NOTHING;
        }
        State s = crowd(sort, h, n);
        return what == 0 ? s.hours[0] : worth(s, 0);
    }

    long many(int sort, int h) {
        if (sort < 0 || sort >= sorts.size() || !isHat(h)) {
            return NONE;
        }
        int best = 1;
        long bestWorth = size(sort, h, 1, 1);
        for (int n = 2; n <= 20; n++) {
            long worth = size(sort, h, n, 1);
            if (worth > bestWorth) {
                best = n;
                bestWorth = worth;
            }
        }
        return best;
    }

    long under(int h, int kind, int what) {
        if (!isHat(h) || kind < 0 || kind > 3 || what < 0 || what > 1) {
            return NOTHING;
        }
        State s = now.same();
        s.kind[h] = kind;
        settled(s);
        return what == 0 ? worths(s) : in(s, h).stream().mapToLong(p -> s.hours[p]).sum();
    }

    long ends(int what) {
        State below = now.same();
        Arrays.fill(below.hours, 0);
        settled(below);
        State above = now.same();
        Arrays.fill(above.hours, most);
        settled(above);
        return switch (what) {
            case 0 -> Arrays.stream(below.hours).sum();
            case 1 -> Arrays.stream(above.hours).sum();
            case 2 -> worths(below);
            case 3 -> worths(above);
            case 4 -> Arrays.equals(below.hours, above.hours) ? 1 : 0;
            default -> NOTHING;
        };
    }

    long alike(int what) {
        if (what < 0 || what > 1) {
            return NOTHING;
        }
        long[] found = {0, Long.MIN_VALUE};
        for (int hours = 0; hours <= most; hours++) {
            State s = now.same();
            Arrays.fill(s.hours, hours);
            if (worths(s) > found[1]) {
                found[0] = hours;
                found[1] = worths(s);
            }
        }
        return found[what];
    }

    long pair(int k, int what) {
        if (k < 0 || k >= pairs.size()) {
            return NONE;
        }
        int a = pairs.get(k)[0];
        int b = pairs.get(k)[1];
        return switch (what) {
            case 0 -> a;
            case 1 -> b;
            case 2 -> paid[a] + paid[b];
            case 3 -> now.hat[a] == now.hat[b] && now.hat[a] != NONE ? 1 : 0;
            default -> NONE;
        };
    }

    long would(int p, int h) {
        return isPerson(p) && (h == NONE || isHat(h)) ? worthAt(now, p, h) : NOTHING;
    }

    long wish(int p) {
        if (!isPerson(p)) {
            return -2;
        }
        long top = Long.MIN_VALUE;
        for (int h = NONE; h < hats(); h++) {
            top = Math.max(top, worthAt(now, p, h));
        }
        if (worth(now, p) == top) {
            return now.hat[p];
        }
        for (int h = NONE; h < hats(); h++) {
            if (worthAt(now, p, h) == top) {
                return h;
            }
        }
        throw new IllegalStateException();
    }

    long choose(int n) {
        if (n < 1 || n > 60) {
            return NONE;
        }
        for (int i = 1; i <= n; i++) {
            boolean goes = false;
            for (int p = 0; p < people(); p++) {
                int wish = (int) wish(p);
                goes |= wish != now.hat[p];
                now.hat[p] = wish;
            }
            if (!goes) {
                return i;
            }
        }
        return -2;
    }

    long stable() {
        for (int p = 0; p < people(); p++) {
            if (wish(p) != now.hat[p]) {
                return 0;
            }
        }
        return 1;
    }

    long gap(int p) {
        return isPerson(p) ? worthAt(now, p, (int) wish(p)) - worth(now, p) : NONE;
    }

    long rings(int h, int k) {
        if (!isHat(h) || k < 0) {
            return NONE;
        }
        State s = now.same();
        for (int i = 0; ; i++) {
            int leaver = NONE;
            long most = 0;
            for (int p : in(s, h)) {
                State alone = s.same();
                alone.hat[p] = NONE;
                long more = worthWith(alone, p, best(alone, p)) - worth(s, p);
                if (more > most) {
                    most = more;
                    leaver = p;
                }
            }
            if (leaver == NONE || i == k) {
                return leaver;
            }
            s.hat[leaver] = NONE;
        }
    }

    // ---- weeks

    boolean seed(int seed) {
        if (seed < 0) {
            return false;
        }
        x = seed;
        return true;
    }

    private long draw(long m) {
        x = (1103515245L * x + 12345L) % (1L << 31);
        return x / 64 % m;
    }

    private void drawFrom(int kind) {
        for (int h = 0; h < hats(); h++) {
            if (now.kind[h] == kind) {
                List<Integer> left = in(now, h);
                for (int p : in(now, h)) {
                    slipOf[p] = left.remove((int) draw(left.size()));
                }
            }
        }
    }

    private long week() {
        Arrays.fill(slipOf, NONE);
        drawFrom(1);
        int[] next = now.hours.clone();
        for (int p = 0; p < people(); p++) {
            long[] facts = facts(p);
            for (Rule rule : rules) {
                if (rule.sort() == now.sort[p] && rule.test().of(facts) != 0) {
                    next[p] = (int) Math.max(0, Math.min(most, rule.sum().of(facts)));
                    break;
                }
            }
        }
        now.hours = next;
        drawFrom(0);
        for (int p = 0; p < people(); p++) {
            int h = now.hat[p];
            drawn[p] = h == NONE ? 0
                    : now.kind[h] <= 1 ? slip(now, slipOf[p])
                    : now.kind[h] == 2 ? floor(sum(now, h), in(now, h).size())
                    : floor(sum(now, h) * sorts.get(now.sort[p]).need(), needs(now, h));
        }
        for (int p = 0; p < people(); p++) {
            int h = now.hat[p];
            if (h != NONE && now.hours[p] < now.least[h] && draw(100) < now.looks[h]) {
                lost = Math.min(1000000000L, lost + drawn[p]);
                drawn[p] = 0;
            }
        }
        for (int[] pair : pairs) {
            long both = drawn[pair[0]] + drawn[pair[1]];
            drawn[pair[1]] = both / 2;
            drawn[pair[0]] = both - both / 2;
        }
        weeks++;
        long all = 0;
        for (int p = 0; p < people(); p++) {
            all += kept(now, p) + drawn[p];
            paid[p] = Math.min(1000000000L, paid[p] + kept(now, p) + drawn[p]);
        }
        return all;
    }

    private long[] facts(int p) {
        int h = now.hat[p];
        boolean in = h != NONE;
        return new long[] {
            in ? in(now, h).size() : 1,
            sorts.get(now.sort[p]).brings(),
            weeks,
            now.hours[p],
            in ? in(now, h).stream().filter(q -> q != p).mapToLong(q -> now.hours[q]).max().orElse(0) : 0,
            drawn[p],
            in && now.kind[h] == 1 && slipOf[p] == p ? 1 : 0,
            in ? now.keeps[h] : 100,
        };
    }

    long run(int n) {
        if (n < 1 || n > 60 || weeks + n > 9999) {
            return NONE;
        }
        long all = 0;
        for (int i = 0; i < n; i++) {
            all += week();
        }
        return all;
    }

    long drew(int p) {
        return isPerson(p) ? slipOf[p] : NONE;
    }

    boolean said(int p, int hours) {
        if (!isPerson(p) || !isWork(hours)) {
            return false;
        }
        said[p] = hours;
        return true;
    }

    long less() {
        long bits = 0;
        for (int p = 0; p < people(); p++) {
            if (said[p] != NONE && now.hours[p] < said[p]) {
                bits |= 1L << p;
            }
        }
        return bits;
    }

    // ---- images

    int[] image() {
        List<Integer> bytes = new ArrayList<>();
        bytes.add(people());
        for (int p = 0; p < people(); p++) {
            bytes.add(now.hat[p] + 1);
            bytes.add(now.hours[p]);
            bytes.add((int) (drawn[p] / 256));
            bytes.add((int) (drawn[p] % 256));
        }
        bytes.add(weeks / 256);
        bytes.add(weeks % 256);
        bytes.add(check(bytes));
        return bytes.stream().mapToInt(i -> i).toArray();
    }

    static int check(List<Integer> bytes) {
        int c = 21;
        for (int octet : bytes) {
            c = (7 * c + octet) % 239;
        }
        return c;
    }

    boolean on(int[] bytes) {
        int n = people();
        if (bytes.length != 4 * n + 4 || bytes[0] != n) {
            return false;
        }
        List<Integer> ahead = new ArrayList<>();
        for (int i = 0; i < bytes.length - 1; i++) {
            ahead.add(bytes[i]);
        }
        int weeksTold = 256 * bytes[4 * n + 1] + bytes[4 * n + 2];
        boolean good = check(ahead) == bytes[bytes.length - 1] && weeksTold <= 9999;
        for (int p = 0; p < n; p++) {
            good &= bytes[4 * p + 1] <= hats() && bytes[4 * p + 2] <= most;
        }
        if (!good) {
            return false;
        }
        for (int p = 0; p < n; p++) {
            now.hat[p] = bytes[4 * p + 1] - 1;
            now.hours[p] = bytes[4 * p + 2];
            drawn[p] = 256L * bytes[4 * p + 3] + bytes[4 * p + 4];
        }
        weeks = weeksTold;
        Arrays.fill(slipOf, NONE);
        return true;
    }
}
