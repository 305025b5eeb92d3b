import java.util.Arrays;

/** All wages in one hat: a town of people by sorts, and hats in which what they earned is put as slips. */
public final class WageHats {
    public static final int NONE = -1;
    public static final int NOTHING = -1000000000;

    private static final int TAPE = 1600;
    private static final int FEED = 20;
    private static final int STATEMENTS = 100;
    private static final int SORTS = 6;
    private static final int HATS = 4;
    private static final int PERSONS = 12;
    private static final int RULES = 12;
    private static final int CROWD = 20;
    private static final int ROUNDS = 60;
    private static final int LAST_WEEK = 9999;
    private static final int MUCH = 1000000000;
    private static final int USUAL_HOURS = 40;
    private static final int NAME_LETTERS = 6;
    private static final int LETTERS = 27;
    private static final int AFTER = 0;
    private static final int BEFORE = 1;
    private static final int SHARE = 3;
    private static final int NOT_WITHIN = -2;

    private final int[] tape = new int[TAPE];
    private final int[] picture = new int[4 * PERSONS + 4];
    private final Weeks weeks = new Weeks();
    private final Scene trial = new Scene(CROWD);
    private Town now = new Town();
    private Town spare = new Town();
    private final Reader reader = new Reader(spare);
    private int fed;
    private int pictured;

    /** No sorts, hats, persons: a town without a statement. */
    public WageHats() {
    }

    // ---- the town

    public int feed(int a, int b, int c, int d, int e) {
        if (fed + FEED > TAPE) {
            return NONE;
        }
        lay(a);
        lay(b);
        lay(c);
        lay(d);
        lay(e);
        return fed;
    }

    private void lay(int four) {
        for (int shift = 24; shift >= 0 && fed < TAPE; shift -= 8) {
            tape[fed] = (four >>> shift) & 255;
            fed++;
        }
    }

    public boolean end(int n) {
        if (n < 0 || n > fed) {
            return false;
        }
        fed = n;
        return true;
    }

    public int town() {
        reader.begin(tape, fed, spare);
        fed = 0;
        for (int i = 0; i <= STATEMENTS && reader.hasMore(); i++) {
            reader.readStatement();
        }
        if (!reader.isGood()) {
            return NONE;
        }
        Town old = now;
        now = spare;
        spare = old;
        weeks.startAnew();
        return reader.statements;
    }

    public int fault(int what) {
        if (what == 0) {
            return reader.faultKind;
        }
        return what == 1 ? reader.faultPlace : NONE;
    }

    public int has(int what) {
        Scene scene = now.scene;
        switch (what) {
            case 0: return scene.sorts.count;
            case 1: return scene.hats.count;
            case 2: return scene.people.count;
            case 3: return scene.people.pairs;
            case 4: return now.rules.count;
            case 5: return scene.most;
            case 6: return weeks.past;
            case 7: return weeks.lost;
            case 8: return scene.people.countIn(NONE);
            default: return NONE;
        }
    }

    public int letter(int kind, int which, int k) {
        Scene scene = now.scene;
        if (k < 0 || k >= NAME_LETTERS) {
            return NONE;
        }
        switch (kind) {
            case 0: return isIn(which, scene.sorts.count) ? letterOf(at(scene.sorts.name, which), k) : NONE;
            case 1: return isIn(which, scene.hats.count) ? letterOf(at(scene.hats.name, which), k) : NONE;
            case 2: return isIn(which, scene.people.count) ? letterOf(at(scene.people.name, which), k) : NONE;
            default: return NONE;
        }
    }

    public int person(int person, int what) {
        Scene scene = now.scene;
        if (!scene.hasPerson(person)) {
            return NONE;
        }
        switch (what) {
            case 0: return at(scene.people.sort, person);
            case 1: return at(scene.people.hat, person);
            case 2: return at(scene.people.hours, person);
            case 3: return at(scene.people.mate, person);
            case 4: return scene.earned(person);
            case 5: return scene.slip(person);
            case 6: return scene.earned(person) - scene.slip(person);
            case 7: return at(weeks.drawn, person);
            case 8: return at(weeks.paid, person);
            case 9: return scene.bestHours(person, at(scene.people.hat, person));
            default: return NONE;
        }
    }

    public int hat(int hat, int what) {
        Scene scene = now.scene;
        if (!isIn(hat, scene.hats.count)) {
            return NONE;
        }
        switch (what) {
            case 0: return at(scene.hats.keeps, hat);
            case 1: return at(scene.hats.least, hat);
            case 2: return at(scene.hats.looks, hat);
            case 3: return at(scene.hats.kind, hat);
            case 4: return scene.people.countIn(hat);
            case 5: return scene.sumIn(hat);
            case 6: return scene.meanIn(hat);
            case 7: return scene.spreadIn(hat);
            default: return NONE;
        }
    }

    public int put(int person, int hours) {
        Scene scene = now.scene;
        if (!scene.hasPerson(person) || !scene.canWork(hours)) {
            return NONE;
        }
        int old = at(scene.people.hours, person);
        set(scene.people.hours, person, hours);
        return old;
    }

    public boolean move(int person, int hat) {
        Scene scene = now.scene;
        if (!scene.hasPerson(person) || !scene.isPlace(hat) || at(scene.people.hat, person) == hat) {
            return false;
        }
        set(scene.people.hat, person, hat);
        return true;
    }

    public int keep(int hat, int keeps) {
        Hats hats = now.scene.hats;
        if (!isIn(hat, hats.count) || keeps < 0 || keeps > 100) {
            return NONE;
        }
        int old = at(hats.keeps, hat);
        set(hats.keeps, hat, keeps);
        return old;
    }

    // ---- what it is worth

    public int worth(int person, int hours) {
        Scene scene = now.scene;
        if (!scene.hasPerson(person)) {
            return NOTHING;
        }
        if (hours == NONE) {
            return scene.worthNow(person);
        }
        return scene.canWork(hours) ? scene.worthIn(person, hours, at(scene.people.hat, person)) : NOTHING;
    }

    public int all() {
        return now.scene.allWorths();
    }

    public int rest(int n) {
        if (n < 1 || n > ROUNDS) {
            return NONE;
        }
        for (int rounds = 1; rounds <= n; rounds++) {
            if (!now.scene.changesInRound()) {
                return rounds;
            }
        }
        return NOT_WITHIN;
    }

    public int proof() {
        Scene scene = now.scene;
        int most = 0;
        for (int p = 0; p < scene.people.count; p++) {
            int hat = at(scene.people.hat, p);
            int best = scene.worthIn(p, scene.bestHours(p, hat), hat);
            most = Math.max(most, best - scene.worthNow(p));
        }
        return most;
    }

    // ---- hats

    public int part(int hat, int what) {
        Scene scene = now.scene;
        if (!isIn(hat, scene.hats.count) || what < 0 || what > 1) {
            return NOTHING;
        }
        int best = 0;
        int bestWorth = 0;
        for (int keeps = 0; keeps <= 100; keeps += 5) {
            trial.copyOf(scene);
            set(trial.hats.keeps, hat, keeps);
            trial.settle();
            int worth = trial.allWorths();
            if (keeps == 0 || worth > bestWorth) {
                best = keeps;
                bestWorth = worth;
            }
        }
        return what == 0 ? best : bestWorth;
    }

    public int look(int hat) {
        Scene scene = now.scene;
        if (!isIn(hat, scene.hats.count)) {
            return NONE;
        }
        for (int looks = 0; looks <= 100; looks++) {
            trial.copyOf(scene);
            set(trial.hats.looks, hat, looks);
            trial.settle();
            if (trial.allWorkLeast(hat)) {
                return looks;
            }
        }
        return NONE;
    }

    public int size(int sort, int hat, int n, int what) {
        if (!canCrowd(sort, hat) || n < 1 || n > CROWD || what < 0 || what > 1) {
            return NOTHING;
        }
        crowdTrial(sort, hat, n);
        return what == 0 ? at(trial.people.hours, 0) : trial.worthNow(0);
    }

    public int many(int sort, int hat) {
        if (!canCrowd(sort, hat)) {
            return NONE;
        }
        int best = 0;
        int bestWorth = 0;
        for (int n = 1; n <= CROWD; n++) {
            crowdTrial(sort, hat, n);
            int worth = trial.worthNow(0);
            if (n == 1 || worth > bestWorth) {
                best = n;
                bestWorth = worth;
            }
        }
        return best;
    }

    private boolean canCrowd(int sort, int hat) {
        return isIn(sort, now.scene.sorts.count) && isIn(hat, now.scene.hats.count);
    }

    private void crowdTrial(int sort, int hat, int n) {
        trial.copyOf(now.scene);
        trial.people.becomeAlike(n, sort, hat);
        trial.settle();
    }

    public int under(int hat, int kind, int what) {
        Scene scene = now.scene;
        if (!isIn(hat, scene.hats.count) || kind < AFTER || kind > SHARE || what < 0 || what > 1) {
            return NOTHING;
        }
        trial.copyOf(scene);
        set(trial.hats.kind, hat, kind);
        trial.settle();
        return what == 0 ? trial.allWorths() : trial.hoursIn(hat);
    }

    public int ends(int what) {
        switch (what) {
            case 0:
                settleTrialFrom(0);
                return trial.allHours();
            case 1:
                settleTrialFrom(now.scene.most);
                return trial.allHours();
            case 2:
                settleTrialFrom(0);
                return trial.allWorths();
            case 3:
                settleTrialFrom(now.scene.most);
                return trial.allWorths();
            case 4:
                settleTrialFrom(0);
                trial.people.noteHours();
                settleTrialFrom(now.scene.most);
                return trial.people.workAsNoted() ? 1 : 0;
            default:
                return NOTHING;
        }
    }

    private void settleTrialFrom(int hours) {
        trial.copyOf(now.scene);
        trial.people.workAll(hours);
        trial.settle();
    }

    public int alike(int what) {
        if (what < 0 || what > 1) {
            return NOTHING;
        }
        int best = 0;
        int bestWorth = 0;
        trial.copyOf(now.scene);
        for (int hours = 0; hours <= trial.most; hours++) {
            trial.people.workAll(hours);
            int worth = trial.allWorths();
            if (hours == 0 || worth > bestWorth) {
                best = hours;
                bestWorth = worth;
            }
        }
        return what == 0 ? best : bestWorth;
    }

    public int pair(int k, int what) {
        People people = now.scene.people;
        if (!isIn(k, people.pairs)) {
            return NONE;
        }
        int first = at(people.pairFirst, k);
        int second = at(people.pairSecond, k);
        switch (what) {
            case 0: return first;
            case 1: return second;
            case 2: return at(weeks.paid, first) + at(weeks.paid, second);
            case 3: return at(people.hat, first) != NONE && at(people.hat, first) == at(people.hat, second) ? 1 : 0;
            default: return NONE;
        }
    }

    public int would(int person, int hat) {
        Scene scene = now.scene;
        if (!scene.hasPerson(person) || !scene.isPlace(hat)) {
            return NOTHING;
        }
        return scene.worthIn(person, at(scene.people.hours, person), hat);
    }

    public int wish(int person) {
        return now.scene.hasPerson(person) ? now.scene.wishOf(person) : -2;
    }

    public int choose(int n) {
        if (n < 1 || n > ROUNDS) {
            return NONE;
        }
        for (int rounds = 1; rounds <= n; rounds++) {
            if (!now.scene.goesInRound()) {
                return rounds;
            }
        }
        return NOT_WITHIN;
    }

    public int stable() {
        Scene scene = now.scene;
        for (int p = 0; p < scene.people.count; p++) {
            if (scene.wishOf(p) != at(scene.people.hat, p)) {
                return 0;
            }
        }
        return 1;
    }

    public int gap(int person) {
        Scene scene = now.scene;
        if (!scene.hasPerson(person)) {
            return NONE;
        }
        int wished = scene.worthIn(person, at(scene.people.hours, person), scene.wishOf(person));
        return wished - scene.worthNow(person);
    }

    public int rings(int hat, int k) {
        Scene scene = now.scene;
        if (!isIn(hat, scene.hats.count) || !isIn(k, scene.people.count)) {
            return NONE;
        }
        trial.copyOf(scene);
        int leaver = NONE;
        for (int left = 0; left <= k; left++) {
            leaver = trial.nextToLeave(hat);
            if (leaver == NONE) {
                return NONE;
            }
            set(trial.people.hat, leaver, NONE);
        }
        return leaver;
    }

    // ---- weeks

    public boolean seed(int seed) {
        if (seed < 0) {
            return false;
        }
        weeks.chance = seed;
        return true;
    }

    public int run(int n) {
        if (n < 1 || n > ROUNDS || weeks.past + n > LAST_WEEK) {
            return NONE;
        }
        int paid = 0;
        for (int week = 0; week < n; week++) {
            paid += weeks.pass(now);
        }
        return paid;
    }

    public int drew(int person) {
        return now.scene.hasPerson(person) ? at(weeks.drew, person) : NONE;
    }

    public boolean said(int person, int hours) {
        if (!now.scene.hasPerson(person) || !now.scene.canWork(hours)) {
            return false;
        }
        set(weeks.said, person, hours);
        return true;
    }

    public int less() {
        People people = now.scene.people;
        int bits = 0;
        for (int p = 0; p < people.count; p++) {
            if (at(people.hours, p) < at(weeks.said, p)) {
                bits |= 1 << p;
            }
        }
        return bits;
    }

    // ---- images

    public int image() {
        People people = now.scene.people;
        pictured = 0;
        paint(people.count);
        for (int p = 0; p < people.count; p++) {
            paint(at(people.hat, p) + 1);
            paint(at(people.hours, p));
            paintTwo(at(weeks.drawn, p));
        }
        paintTwo(weeks.past);
        paint(checkOf(picture, pictured));
        return pictured;
    }

    private void paint(int octet) {
        set(picture, pictured, octet & 255);
        pictured++;
    }

    private void paintTwo(int number) {
        paint(number >> 8);
        paint(number);
    }

    public int octet(int k) {
        return isIn(k, pictured) ? at(picture, k) : NONE;
    }

    public boolean on() {
        int length = fed;
        fed = 0;
        if (!isImage(length)) {
            return false;
        }
        People people = now.scene.people;
        for (int p = 0; p < people.count; p++) {
            int from = 1 + 4 * p;
            set(people.hat, p, at(tape, from) - 1);
            set(people.hours, p, at(tape, from + 1));
            set(weeks.drawn, p, twoOfTape(from + 2));
        }
        weeks.past = twoOfTape(length - 3);
        weeks.forgetSlips();
        return true;
    }

    private boolean isImage(int length) {
        Scene scene = now.scene;
        int count = scene.people.count;
        if (length != 4 * count + 4 || at(tape, 0) != count) {
            return false;
        }
        for (int p = 0; p < count; p++) {
            int from = 1 + 4 * p;
            if (at(tape, from) > scene.hats.count || at(tape, from + 1) > scene.most) {
                return false;
            }
        }
        return twoOfTape(length - 3) <= LAST_WEEK && at(tape, length - 1) == checkOf(tape, length - 1);
    }

    private int twoOfTape(int from) {
        return 256 * at(tape, from) + at(tape, from + 1);
    }

    private static int checkOf(int[] row, int length) {
        int check = 21;
        for (int i = 0; i < length; i++) {
            check = (7 * check + at(row, i)) % 239;
        }
        return check;
    }

    // ---- what all use

    private static boolean isIn(int k, int count) {
        return k >= 0 && k < count;
    }

    private static int at(int[] row, int k) {
        return k >= 0 && k < row.length ? row[k] : 0;
    }

    private static void set(int[] row, int k, int value) {
        if (k >= 0 && k < row.length) {
            row[k] = value;
        }
    }

    private static int letterOf(int name, int k) {
        int rest = name;
        for (int behind = NAME_LETTERS - 1; behind > k; behind--) {
            rest /= LETTERS;
        }
        return rest % LETTERS;
    }

    private static int slipOf(int earned, int keeps) {
        return earned * (100 - keeps) / 100;
    }

    private static int spreadOf(int[] slips, int n, int sum) {
        if (n < 1) {
            return 0;
        }
        int apart = 0;
        for (int i = 0; i < n && i < slips.length; i++) {
            apart += Math.abs(n * slips[i] - sum);
        }
        return 100 * apart / (n * n);
    }

    private static int indexOf(int[] row, int count, int value) {
        for (int i = 0; i < count && i < row.length; i++) {
            if (row[i] == value) {
                return i;
            }
        }
        return NONE;
    }

    /** The sorts of people; a name is six letters in base 27, 0 behind its end. */
    private static final class Sorts {
        final int[] name = new int[SORTS];
        final int[] brings = new int[SORTS];
        final int[] tires = new int[SORTS];
        final int[] mind = new int[SORTS];
        final int[] pride = new int[SORTS];
        final int[] need = new int[SORTS];
        int count;
    }

    private static final class Hats {
        final int[] name = new int[HATS];
        final int[] keeps = new int[HATS];
        final int[] least = new int[HATS];
        final int[] looks = new int[HATS];
        final int[] kind = new int[HATS];
        int count;

        void copyOf(Hats other) {
            count = other.count;
            for (int h = 0; h < count; h++) {
                set(keeps, h, at(other.keeps, h));
                set(least, h, at(other.least, h));
                set(looks, h, at(other.looks, h));
                set(kind, h, at(other.kind, h));
            }
        }
    }

    private static final class People {
        final int[] name;
        final int[] sort;
        final int[] hat;
        final int[] hours;
        final int[] noted;
        final int[] mate;
        final int[] pairFirst = new int[PERSONS];
        final int[] pairSecond = new int[PERSONS];
        int count;
        int pairs;

        People(int limit) {
            int room = Math.max(0, limit);
            name = new int[room];
            sort = new int[room];
            hat = new int[room];
            hours = new int[room];
            noted = new int[room];
            mate = new int[room];
        }

        /** Names and the order of pairs stay out: no trial asks for them. */
        void copyOf(People other) {
            count = other.count;
            for (int p = 0; p < count; p++) {
                set(sort, p, at(other.sort, p));
                set(hat, p, at(other.hat, p));
                set(hours, p, at(other.hours, p));
                set(mate, p, at(other.mate, p));
            }
        }

        void becomeAlike(int n, int ofSort, int inHat) {
            count = n;
            for (int p = 0; p < count; p++) {
                set(sort, p, ofSort);
                set(hat, p, inHat);
                set(hours, p, 0);
                set(mate, p, NONE);
            }
        }

        int countIn(int place) {
            int in = 0;
            for (int p = 0; p < count; p++) {
                if (at(hat, p) == place) {
                    in++;
                }
            }
            return in;
        }

        int mostOfOthers(int person, int place) {
            int most = 0;
            for (int p = 0; p < count; p++) {
                if (p != person && at(hat, p) == place) {
                    most = Math.max(most, at(hours, p));
                }
            }
            return most;
        }

        void workAll(int each) {
            for (int p = 0; p < count; p++) {
                set(hours, p, each);
            }
        }

        void noteHours() {
            for (int p = 0; p < count; p++) {
                set(noted, p, at(hours, p));
            }
        }

        boolean workAsNoted() {
            for (int p = 0; p < count; p++) {
                if (at(noted, p) != at(hours, p)) {
                    return false;
                }
            }
            return true;
        }
    }

    /** One person and the others of one hat: what each number of hours would be worth to it there. */
    private static final class Company {
        final int[] slips = new int[CROWD];
        boolean alone;
        boolean mateThere;
        int others;
        int sum;
        int needs;
        int top;
        int keeps;
        int least;
        int looks;
        int kind;
        int brings;
        int tires;
        int mind;
        int pride;
        int need;

        void gather(Scene scene, int person, int place) {
            gatherOwn(scene.sorts, at(scene.people.sort, person));
            alone = place < 0;
            others = 0;
            sum = 0;
            needs = need;
            top = 0;
            mateThere = false;
            if (alone) {
                return;
            }
            gatherHat(scene.hats, place);
            People people = scene.people;
            for (int p = 0; p < people.count; p++) {
                if (p != person && at(people.hat, p) == place) {
                    int slip = slipOf(scene.earned(p), keeps);
                    set(slips, others, slip);
                    others++;
                    sum += slip;
                    needs += scene.needOf(p);
                    top = Math.max(top, at(people.hours, p));
                    mateThere = mateThere || at(people.mate, person) == p;
                }
            }
        }

        private void gatherOwn(Sorts sorts, int sort) {
            brings = at(sorts.brings, sort);
            tires = at(sorts.tires, sort);
            mind = at(sorts.mind, sort);
            pride = at(sorts.pride, sort);
            need = at(sorts.need, sort);
        }

        private void gatherHat(Hats hats, int place) {
            keeps = at(hats.keeps, place);
            least = at(hats.least, place);
            looks = at(hats.looks, place);
            kind = at(hats.kind, place);
        }

        int worthWith(int hours) {
            int earned = brings * hours;
            int tired = tires * hours * hours;
            int n = others + 1;
            if (alone || needs < 1 || n < 1) {
                return 100 * earned - tired;
            }
            int slip = slipOf(earned, keeps);
            int together = sum + slip;
            int comes = kind == SHARE ? 100 * together * need / needs : 100 * together / n;
            if (kind <= BEFORE && mind > 0) {
                set(slips, others, slip);
                int spread = spreadOf(slips, n, together);
                comes -= mind * (mateThere ? spread / 2 : spread) / 100;
            }
            if (hours < least) {
                comes = Math.floorDiv(comes * (100 - looks), 100);
            }
            return 100 * (earned - slip) - tired + comes - pride * Math.max(0, top - hours);
        }
    }

    /** People in their hats as they are, or as they would be. */
    private static final class Scene {
        final Hats hats = new Hats();
        final People people;
        final Company company = new Company();
        final int[] trail;
        final int width;
        Sorts sorts = new Sorts();
        int most = USUAL_HOURS;

        Scene(int limit) {
            width = Math.max(0, limit);
            people = new People(width);
            trail = new int[ROUNDS * width];
        }

        void clear() {
            sorts.count = 0;
            hats.count = 0;
            people.count = 0;
            people.pairs = 0;
            most = USUAL_HOURS;
        }

        void copyOf(Scene other) {
            sorts = other.sorts;
            most = other.most;
            hats.copyOf(other.hats);
            people.copyOf(other.people);
        }

        boolean hasPerson(int person) {
            return isIn(person, people.count);
        }

        boolean canWork(int hours) {
            return hours >= 0 && hours <= most;
        }

        boolean isPlace(int hat) {
            return hat == NONE || isIn(hat, hats.count);
        }

        int earned(int person) {
            return at(people.hours, person) * at(sorts.brings, at(people.sort, person));
        }

        int needOf(int person) {
            return at(sorts.need, at(people.sort, person));
        }

        int slip(int person) {
            int hat = at(people.hat, person);
            return hat < 0 ? 0 : slipOf(earned(person), at(hats.keeps, hat));
        }

        int sumIn(int hat) {
            int sum = 0;
            for (int p = 0; p < people.count; p++) {
                if (at(people.hat, p) == hat) {
                    sum += slip(p);
                }
            }
            return sum;
        }

        int needsIn(int hat) {
            int needs = 0;
            for (int p = 0; p < people.count; p++) {
                if (at(people.hat, p) == hat) {
                    needs += needOf(p);
                }
            }
            return needs;
        }

        int meanIn(int hat) {
            int n = people.countIn(hat);
            return n > 0 ? 100 * sumIn(hat) / n : 0;
        }

        int spreadIn(int hat) {
            int n = 0;
            for (int p = 0; p < people.count; p++) {
                if (at(people.hat, p) == hat) {
                    set(company.slips, n, slip(p));
                    n++;
                }
            }
            return spreadOf(company.slips, n, sumIn(hat));
        }

        int worthIn(int person, int hours, int place) {
            company.gather(this, person, place);
            return company.worthWith(hours);
        }

        int worthNow(int person) {
            return worthIn(person, at(people.hours, person), at(people.hat, person));
        }

        int allWorths() {
            int worths = 0;
            for (int p = 0; p < people.count; p++) {
                worths += worthNow(p);
            }
            return worths;
        }

        int allHours() {
            int hours = 0;
            for (int p = 0; p < people.count; p++) {
                hours += at(people.hours, p);
            }
            return hours;
        }

        int hoursIn(int hat) {
            int hours = 0;
            for (int p = 0; p < people.count; p++) {
                if (at(people.hat, p) == hat) {
                    hours += at(people.hours, p);
                }
            }
            return hours;
        }

        boolean allWorkLeast(int hat) {
            for (int p = 0; p < people.count; p++) {
                if (at(people.hat, p) == hat && at(people.hours, p) < at(hats.least, hat)) {
                    return false;
                }
            }
            return true;
        }

        int bestHours(int person, int place) {
            company.gather(this, person, place);
            int best = 0;
            int bestWorth = company.worthWith(0);
            for (int hours = 1; hours <= most; hours++) {
                int worth = company.worthWith(hours);
                if (worth > bestWorth) {
                    best = hours;
                    bestWorth = worth;
                }
            }
            return best;
        }

        boolean changesInRound() {
            boolean changes = false;
            for (int p = 0; p < people.count; p++) {
                int best = bestHours(p, at(people.hat, p));
                if (best != at(people.hours, p)) {
                    set(people.hours, p, best);
                    changes = true;
                }
            }
            return changes;
        }

        /** Sixty rounds at most; hours that come again go round in a ring, so whole turns of it are left out. */
        void settle() {
            int limit = ROUNDS;
            for (int done = 1; done <= limit && done <= ROUNDS; done++) {
                noteTrail(done - 1);
                if (!changesInRound()) {
                    return;
                }
                int since = limit == ROUNDS ? firstOfTrail(done) : NONE;
                if (since >= 0 && since < done) {
                    limit = done + (ROUNDS - done) % (done - since);
                }
            }
        }

        private void noteTrail(int row) {
            for (int p = 0; p < people.count; p++) {
                set(trail, row * width + p, at(people.hours, p));
            }
        }

        private int firstOfTrail(int rows) {
            for (int row = 0; row < rows; row++) {
                if (isOnTrail(row)) {
                    return row;
                }
            }
            return NONE;
        }

        private boolean isOnTrail(int row) {
            for (int p = 0; p < people.count; p++) {
                if (at(trail, row * width + p) != at(people.hours, p)) {
                    return false;
                }
            }
            return true;
        }

        int wishOf(int person) {
            int hours = at(people.hours, person);
            int best = at(people.hat, person);
            int bestWorth = worthIn(person, hours, best);
            for (int place = NONE; place < hats.count; place++) {
                int worth = worthIn(person, hours, place);
                if (worth > bestWorth) {
                    best = place;
                    bestWorth = worth;
                }
            }
            return best;
        }

        boolean goesInRound() {
            boolean goes = false;
            for (int p = 0; p < people.count; p++) {
                int wish = wishOf(p);
                if (wish != at(people.hat, p)) {
                    set(people.hat, p, wish);
                    goes = true;
                }
            }
            return goes;
        }

        int nextToLeave(int hat) {
            int leaver = NONE;
            int most = 0;
            for (int p = 0; p < people.count; p++) {
                if (at(people.hat, p) == hat) {
                    int more = worthIn(p, bestHours(p, NONE), NONE) - worthNow(p);
                    if (more > most) {
                        leaver = p;
                        most = more;
                    }
                }
            }
            return leaver;
        }
    }

    /** The rules' tests and sums, as steps for a stack: below PUSH_FACT a number stands for itself. */
    private static final class Rules {
        static final int PUSH_FACT = 10000;
        static final int FACTS = 8;
        static final int NOT = 10010;
        static final int ADD = 10011;
        static final int TAKE = 10012;
        static final int TIMES = 10013;
        static final int OVER = 10014;
        static final int MIN = 10015;
        static final int MAX = 10016;
        static final int BELOW = 10017;
        static final int ABOVE = 10018;
        static final int SAME = 10019;
        static final int MILLION = 1000000;

        final int[] sort = new int[RULES];
        final int[] sumFrom = new int[RULES];
        final int[] testFrom = new int[RULES];
        final int[] testTo = new int[RULES];
        final int[] steps = new int[TAPE];
        final int[] stack = new int[64];
        int count;
        int length;

        void clear() {
            count = 0;
            length = 0;
        }

        void add(int step) {
            if (length < steps.length) {
                steps[length] = step;
                length++;
            }
        }

        /** The first rule of the sort whose test holds. */
        int ruleFor(int ofSort, int[] facts) {
            for (int r = 0; r < count; r++) {
                if (at(sort, r) == ofSort && valueOf(at(testFrom, r), at(testTo, r), facts) != 0) {
                    return r;
                }
            }
            return NONE;
        }

        int hoursOf(int rule, int[] facts) {
            return valueOf(at(sumFrom, rule), at(testFrom, rule), facts);
        }

        private int valueOf(int from, int to, int[] facts) {
            int high = 0;
            for (int i = Math.max(0, from); i < to && i < steps.length; i++) {
                int step = steps[i];
                if (step < PUSH_FACT + FACTS) {
                    set(stack, high, step < PUSH_FACT ? step : at(facts, step - PUSH_FACT));
                    high++;
                } else if (step == NOT) {
                    set(stack, high - 1, 1 - at(stack, high - 1));
                } else {
                    high--;
                    set(stack, high - 1, joined(step, at(stack, high - 1), at(stack, high)));
                }
            }
            return at(stack, 0);
        }

        private static int joined(int step, int a, int b) {
            switch (step) {
                case ADD: return within((long) a + b);
                case TAKE: return within((long) a - b);
                case TIMES: return within((long) a * b);
                case OVER: return b == 0 ? 0 : Math.floorDiv(a, b);
                case MIN: return Math.min(a, b);
                case MAX: return Math.max(a, b);
                case BELOW: return a < b ? 1 : 0;
                case ABOVE: return a > b ? 1 : 0;
                default: return a == b ? 1 : 0;
            }
        }

        private static int within(long value) {
            return (int) Math.max(-MILLION, Math.min(MILLION, value));
        }
    }

    private static final class Town {
        final Scene scene = new Scene(PERSONS);
        final Rules rules = new Rules();
    }

    /** The weeks that were: what was drawn, paid, lost and said in them. */
    private static final class Weeks {
        final int[] drawn = new int[PERSONS];
        final int[] paid = new int[PERSONS];
        final int[] drew = new int[PERSONS];
        final int[] said = new int[PERSONS];
        final int[] slipsLeft = new int[PERSONS];
        final int[] nextHours = new int[PERSONS];
        final int[] facts = new int[Rules.FACTS];
        int past;
        int lost;
        int chance = 1;

        /** Hours are 0 anew already, by the town that was read. */
        void startAnew() {
            Arrays.fill(drawn, 0);
            Arrays.fill(paid, 0);
            Arrays.fill(said, NONE);
            forgetSlips();
            past = 0;
            lost = 0;
        }

        void forgetSlips() {
            Arrays.fill(drew, NONE);
        }

        int pass(Town town) {
            Scene scene = town.scene;
            forgetSlips();
            drawFrom(scene, BEFORE);
            takeHours(town);
            drawFrom(scene, AFTER);
            handOut(scene);
            lookAtAll(scene);
            halvePairs(scene.people);
            past++;
            return payAll(scene);
        }

        private int draw(int m) {
            chance = (int) ((1103515245L * chance + 12345L) & 0x7fffffffL);
            return m > 0 ? chance / 64 % m : 0;
        }

        private void drawFrom(Scene scene, int kind) {
            for (int h = 0; h < scene.hats.count; h++) {
                if (at(scene.hats.kind, h) == kind) {
                    drawHat(scene.people, h);
                }
            }
        }

        private void drawHat(People people, int hat) {
            int left = 0;
            for (int p = 0; p < people.count; p++) {
                if (at(people.hat, p) == hat) {
                    set(slipsLeft, left, p);
                    left++;
                }
            }
            for (int p = 0; p < people.count; p++) {
                if (at(people.hat, p) == hat) {
                    int k = draw(left);
                    set(drew, p, at(slipsLeft, k));
                    left--;
                    for (int i = k; i < left; i++) {
                        set(slipsLeft, i, at(slipsLeft, i + 1));
                    }
                }
            }
        }

        /** All are reckoned before the first changes: everybody goes by what was ahead of the week. */
        private void takeHours(Town town) {
            People people = town.scene.people;
            for (int p = 0; p < people.count; p++) {
                gatherFacts(town.scene, p);
                int rule = town.rules.ruleFor(at(people.sort, p), facts);
                int hours = rule == NONE ? at(people.hours, p) : town.rules.hoursOf(rule, facts);
                set(nextHours, p, Math.max(0, Math.min(town.scene.most, hours)));
            }
            for (int p = 0; p < people.count; p++) {
                set(people.hours, p, at(nextHours, p));
            }
        }

        /** In the order of Reader.factOf. */
        private void gatherFacts(Scene scene, int person) {
            People people = scene.people;
            int hat = at(people.hat, person);
            boolean alone = hat == NONE;
            boolean ownSlip = !alone && at(scene.hats.kind, hat) == BEFORE && at(drew, person) == person;
            set(facts, 0, alone ? 1 : people.countIn(hat));
            set(facts, 1, past);
            set(facts, 2, at(people.hours, person));
            set(facts, 3, alone ? 0 : people.mostOfOthers(person, hat));
            set(facts, 4, at(drawn, person));
            set(facts, 5, ownSlip ? 1 : 0);
            set(facts, 6, alone ? 100 : at(scene.hats.keeps, hat));
            set(facts, 7, at(scene.sorts.brings, at(people.sort, person)));
        }

        private void handOut(Scene scene) {
            for (int p = 0; p < scene.people.count; p++) {
                set(drawn, p, handed(scene, p));
            }
        }

        private int handed(Scene scene, int person) {
            int hat = at(scene.people.hat, person);
            if (hat == NONE) {
                return 0;
            }
            int kind = at(scene.hats.kind, hat);
            if (kind <= BEFORE) {
                return scene.slip(at(drew, person));
            }
            int weight = kind == SHARE ? scene.needOf(person) : 1;
            int weights = kind == SHARE ? scene.needsIn(hat) : scene.people.countIn(hat);
            return weights > 0 ? scene.sumIn(hat) * weight / weights : 0;
        }

        private void lookAtAll(Scene scene) {
            for (int p = 0; p < scene.people.count; p++) {
                int hat = at(scene.people.hat, p);
                if (hat != NONE && at(scene.people.hours, p) < at(scene.hats.least, hat)
                        && draw(100) < at(scene.hats.looks, hat)) {
                    lost = Math.min(MUCH, lost + at(drawn, p));
                    set(drawn, p, 0);
                }
            }
        }

        private void halvePairs(People people) {
            for (int k = 0; k < people.pairs; k++) {
                int first = at(people.pairFirst, k);
                int second = at(people.pairSecond, k);
                int both = at(drawn, first) + at(drawn, second);
                set(drawn, second, both / 2);
                set(drawn, first, both - both / 2);
            }
        }

        private int payAll(Scene scene) {
            int all = 0;
            for (int p = 0; p < scene.people.count; p++) {
                int pay = scene.earned(p) - scene.slip(p) + at(drawn, p);
                set(paid, p, Math.min(MUCH, at(paid, p) + pay));
                all += pay;
            }
            return all;
        }
    }

    /** A text cut into own words (by number), names, numbers, signs; for want of a blank the later one is STUCK. */
    private static final class Tokens {
        static final String OWN_WORDS = "hours sort brings tires mind pride need hat keeps least looks after before even share person in pair works when or and not all many week last most drawn own kept min max ";
        static final int WORDS = 33;
        static final int NAME = 40;
        static final int NUMBER = 41;
        static final int STUCK = 42;
        static final int END = 43;
        static final int SIGNS = 256;
        static final int DIGITS = 4;

        final int[] ownNames = new int[WORDS];
        final int[] what = new int[TAPE + 1];
        final int[] from = new int[TAPE + 1];
        final int[] span = new int[TAPE + 1];
        final int[] value = new int[TAPE + 1];
        int count;

        Tokens() {
            int word = 0;
            int start = 0;
            for (int i = 0; i < OWN_WORDS.length(); i++) {
                if (OWN_WORDS.charAt(i) == ' ') {
                    set(ownNames, word, ownNameOf(start, i));
                    word++;
                    start = i + 1;
                }
            }
        }

        private static int ownNameOf(int start, int behind) {
            int name = 0;
            for (int i = start; i < start + NAME_LETTERS; i++) {
                int letter = i < behind && i < OWN_WORDS.length() ? OWN_WORDS.charAt(i) - 'a' + 1 : 0;
                name = name * LETTERS + letter;
            }
            return name;
        }

        void cut(int[] text, int length) {
            count = 0;
            for (int place = 0; place < length; place++) {
                int sign = at(text, place);
                if (sign != ' ' && sign != 10) {
                    int wide = spanAt(text, length, place);
                    add(text, place, wide);
                    place += Math.max(0, wide - 1);
                }
            }
            set(what, count, END);
            set(from, count, length);
        }

        private static boolean isLetter(int sign) {
            return sign >= 'a' && sign <= 'z';
        }

        private static boolean isDigit(int sign) {
            return sign >= '0' && sign <= '9';
        }

        private static int spanAt(int[] text, int length, int place) {
            boolean letters = isLetter(at(text, place));
            boolean digits = isDigit(at(text, place));
            for (int behind = place + 1; behind < length; behind++) {
                int sign = at(text, behind);
                if (!(letters && isLetter(sign)) && !(digits && isDigit(sign))) {
                    return behind - place;
                }
            }
            return length - place;
        }

        private void add(int[] text, int place, int wide) {
            int first = at(text, place);
            boolean stuck = isStuck(place);
            if (isLetter(first)) {
                int name = nameAt(text, place, wide);
                int own = wide > NAME_LETTERS ? NONE : indexOf(ownNames, WORDS, name);
                set(what, count, stuck ? STUCK : own == NONE ? NAME : own);
                set(value, count, name);
            } else if (isDigit(first)) {
                set(what, count, stuck ? STUCK : NUMBER);
                set(value, count, numberAt(text, place, wide));
            } else {
                set(what, count, SIGNS + first);
            }
            set(from, count, place);
            set(span, count, wide);
            count++;
        }

        /** Whether a word or number ends right ahead of the place. */
        private boolean isStuck(int place) {
            int last = count - 1;
            return last >= 0 && at(what, last) < SIGNS && at(from, last) + at(span, last) == place;
        }

        private static int nameAt(int[] text, int place, int wide) {
            int name = 0;
            for (int i = 0; i < NAME_LETTERS; i++) {
                name = name * LETTERS + (i < wide ? at(text, place + i) - 'a' + 1 : 0);
            }
            return name;
        }

        private static int numberAt(int[] text, int place, int wide) {
            int number = 0;
            for (int i = 0; i < wide && i < DIGITS; i++) {
                number = 10 * number + at(text, place + i) - '0';
            }
            return number;
        }
    }

    /** Reads a town from a text, statement by statement, till its first fault. */
    private static final class Reader {
        static final int HOURS = 0;
        static final int SORT = 1;
        static final int BRINGS = 2;
        static final int TIRES = 3;
        static final int MIND = 4;
        static final int PRIDE = 5;
        static final int NEED = 6;
        static final int HAT = 7;
        static final int KEEPS = 8;
        static final int LEAST = 9;
        static final int LOOKS = 10;
        static final int FIRST_KIND = 11;
        static final int PERSON = 15;
        static final int IN = 16;
        static final int PAIR = 17;
        static final int WORKS = 18;
        static final int WHEN = 19;
        static final int OR = 20;
        static final int AND = 21;
        static final int NOT = 22;
        static final int ALL = 23;
        static final int MANY = 24;
        static final int KEPT = 30;
        static final int MIN = 31;
        static final int MAX = 32;
        static final int MOST_OPEN = 6;
        static final int WRONG_BYTE = 1;
        static final int WRONG_NUMBER = 2;
        static final int WRONG_NAME = 3;
        static final int TOO_DEEP = 4;
        static final int TOO_MANY = 5;

        final Tokens tokens = new Tokens();
        Scene scene;
        Sorts sorts;
        Hats hats;
        People people;
        Rules rules;
        int next;
        int statements;
        int faultKind;
        int faultPlace = NONE;

        Reader(Town into) {
            aimAt(into);
        }

        private void aimAt(Town into) {
            scene = into.scene;
            sorts = scene.sorts;
            hats = scene.hats;
            people = scene.people;
            rules = into.rules;
        }

        void begin(int[] text, int length, Town into) {
            aimAt(into);
            scene.clear();
            rules.clear();
            tokens.cut(text, length);
            next = 0;
            statements = 0;
            faultKind = 0;
            faultPlace = NONE;
        }

        boolean isGood() {
            return faultKind == 0;
        }

        boolean hasMore() {
            return ahead() != Tokens.END;
        }

        // ---- tokens

        /** Behind a fault nothing more is read. */
        private int ahead() {
            return faultKind == 0 ? at(tokens.what, next) : Tokens.END;
        }

        private void fail(int kind, int further) {
            if (faultKind == 0) {
                faultKind = kind;
                faultPlace = at(tokens.from, next) + further;
            }
        }

        private boolean takes(int what) {
            if (ahead() != what) {
                return false;
            }
            next++;
            return true;
        }

        private void need(int what) {
            if (ahead() == what) {
                next++;
            } else {
                fail(WRONG_BYTE, 0);
            }
        }

        private int readNumber(int least, int most) {
            int value = at(tokens.value, next);
            if (ahead() != Tokens.NUMBER) {
                fail(WRONG_BYTE, 0);
            } else if (at(tokens.span, next) > Tokens.DIGITS) {
                fail(WRONG_BYTE, Tokens.DIGITS);
            } else if (value < least || value > most) {
                fail(WRONG_NUMBER, 0);
            }
            next++;
            return value;
        }

        private int numberAfter(int own, int least, int most) {
            need(own);
            return readNumber(least, most);
        }

        private boolean isNameNext() {
            if (ahead() != Tokens.NAME) {
                fail(WRONG_BYTE, 0);
            } else if (at(tokens.span, next) > NAME_LETTERS) {
                fail(WRONG_BYTE, NAME_LETTERS);
            }
            return isGood();
        }

        private int readNewName() {
            int name = at(tokens.value, next);
            if (isNameNext() && isGiven(name)) {
                fail(WRONG_NAME, 0);
            }
            next++;
            return name;
        }

        private boolean isGiven(int name) {
            return indexOf(sorts.name, sorts.count, name) != NONE
                    || indexOf(hats.name, hats.count, name) != NONE
                    || indexOf(people.name, people.count, name) != NONE;
        }

        private int readKnown(int[] names, int count) {
            int which = indexOf(names, count, at(tokens.value, next));
            if (isNameNext() && which == NONE) {
                fail(WRONG_NAME, 0);
            }
            next++;
            return which;
        }

        private int readUnpaired(int besides) {
            int person = indexOf(people.name, people.count, at(tokens.value, next));
            boolean fits = person != NONE && person != besides && at(people.mate, person) == NONE;
            if (isNameNext() && !fits) {
                fail(WRONG_NAME, 0);
            }
            next++;
            return person;
        }

        // ---- statements

        void readStatement() {
            int own = ahead();
            if (statements >= STATEMENTS || isFull(own)) {
                fail(TOO_MANY, 0);
            } else if (!starts(own)) {
                fail(WRONG_BYTE, 0);
            }
            if (!isGood()) {
                return;
            }
            next++;
            switch (own) {
                case HOURS: scene.most = readNumber(0, 60); break;
                case SORT: readSort(); break;
                case HAT: readHat(); break;
                case PERSON: readPerson(); break;
                case IN: readIn(); break;
                case PAIR: readPair(); break;
                default: readWorks(); break;
            }
            need(Tokens.SIGNS + ';');
            statements++;
        }

        private boolean isFull(int own) {
            switch (own) {
                case SORT: return sorts.count >= SORTS;
                case HAT: return hats.count >= HATS;
                case PERSON: return people.count >= PERSONS;
                case WORKS: return rules.count >= RULES;
                default: return false;
            }
        }

        private static boolean starts(int own) {
            return own == HOURS || own == SORT || own == HAT || own == PERSON
                    || own == IN || own == PAIR || own == WORKS;
        }

        private void readSort() {
            int k = sorts.count;
            set(sorts.name, k, readNewName());
            set(sorts.brings, k, numberAfter(BRINGS, 0, 99));
            set(sorts.tires, k, numberAfter(TIRES, 0, 99));
            set(sorts.mind, k, numberAfter(MIND, 0, 100));
            set(sorts.pride, k, numberAfter(PRIDE, 0, 999));
            set(sorts.need, k, numberAfter(NEED, 1, 9));
            sorts.count++;
        }

        private void readHat() {
            int k = hats.count;
            set(hats.name, k, readNewName());
            set(hats.keeps, k, numberAfter(KEEPS, 0, 100));
            set(hats.least, k, numberAfter(LEAST, 0, 60));
            set(hats.looks, k, numberAfter(LOOKS, 0, 100));
            int kind = ahead() - FIRST_KIND;
            if (kind < AFTER || kind > SHARE) {
                fail(WRONG_BYTE, 0);
            }
            next++;
            set(hats.kind, k, kind);
            hats.count++;
        }

        private void readPerson() {
            int k = people.count;
            set(people.name, k, readNewName());
            need(SORT);
            set(people.sort, k, readKnown(sorts.name, sorts.count));
            set(people.hat, k, NONE);
            set(people.mate, k, NONE);
            set(people.hours, k, 0);
            people.count++;
        }

        private void readIn() {
            int person = readKnown(people.name, people.count);
            set(people.hat, person, readKnown(hats.name, hats.count));
        }

        private void readPair() {
            int first = readUnpaired(NONE);
            int second = readUnpaired(first);
            set(people.mate, first, second);
            set(people.mate, second, first);
            set(people.pairFirst, people.pairs, first);
            set(people.pairSecond, people.pairs, second);
            people.pairs++;
        }

        private void readWorks() {
            int k = rules.count;
            set(rules.sort, k, readKnown(sorts.name, sorts.count));
            set(rules.sumFrom, k, rules.length);
            readSum(0);
            need(WHEN);
            set(rules.testFrom, k, rules.length);
            readTest(0);
            set(rules.testTo, k, rules.length);
            rules.count++;
        }

        // ---- tests and sums; open: how many ( [ not are open

        private void readTest(int open) {
            readBoth(open);
            for (int i = 0; i < TAPE && takes(OR); i++) {
                readBoth(open);
                rules.add(Rules.MAX);
            }
        }

        private void readBoth(int open) {
            readFact(open);
            for (int i = 0; i < TAPE && takes(AND); i++) {
                readFact(open);
                rules.add(Rules.MIN);
            }
        }

        private void readFact(int open) {
            int what = ahead();
            if (what == NOT) {
                if (opens(open)) {
                    readFact(open + 1);
                    rules.add(Rules.NOT);
                }
            } else if (what == Tokens.SIGNS + '[') {
                if (opens(open)) {
                    readTest(open + 1);
                    need(Tokens.SIGNS + ']');
                }
            } else if (takes(ALL)) {
                rules.add(1);
            } else {
                readSum(open);
                int step = readCompare();
                readSum(open);
                rules.add(step);
            }
        }

        private int readCompare() {
            if (takes(Tokens.SIGNS + '<')) {
                return Rules.BELOW;
            }
            if (takes(Tokens.SIGNS + '>')) {
                return Rules.ABOVE;
            }
            need(Tokens.SIGNS + '=');
            return Rules.SAME;
        }

        /** Goes behind the ( [ not that is next, if it may be open too. */
        private boolean opens(int open) {
            if (open >= MOST_OPEN) {
                fail(TOO_DEEP, 0);
            }
            next++;
            return isGood();
        }

        private void readSum(int open) {
            readProduct(open);
            for (int i = 0; i < TAPE && isGood(); i++) {
                if (takes(Tokens.SIGNS + '+')) {
                    readProduct(open);
                    rules.add(Rules.ADD);
                } else if (takes(Tokens.SIGNS + '-')) {
                    readProduct(open);
                    rules.add(Rules.TAKE);
                } else {
                    return;
                }
            }
        }

        private void readProduct(int open) {
            readPiece(open);
            for (int i = 0; i < TAPE && isGood(); i++) {
                if (takes(Tokens.SIGNS + '*')) {
                    readPiece(open);
                    rules.add(Rules.TIMES);
                } else if (takes(Tokens.SIGNS + '/')) {
                    readPiece(open);
                    rules.add(Rules.OVER);
                } else {
                    return;
                }
            }
        }

        private void readPiece(int open) {
            int what = ahead();
            int fact = factOf(what);
            if (takes(MIN)) {
                readOfTwo(open, Rules.MIN);
            } else if (takes(MAX)) {
                readOfTwo(open, Rules.MAX);
            } else if (fact != NONE) {
                next++;
                rules.add(Rules.PUSH_FACT + fact);
            } else if (what == Tokens.SIGNS + '(') {
                if (opens(open)) {
                    readSum(open + 1);
                    need(Tokens.SIGNS + ')');
                }
            } else {
                rules.add(readNumber(0, 9999));
            }
        }

        private void readOfTwo(int open, int step) {
            if (ahead() != Tokens.SIGNS + '(') {
                fail(WRONG_BYTE, 0);
            } else if (opens(open)) {
                readSum(open + 1);
                need(Tokens.SIGNS + ',');
                readSum(open + 1);
                need(Tokens.SIGNS + ')');
                rules.add(step);
            }
        }

        /** In the order of Weeks.gatherFacts. */
        private static int factOf(int own) {
            if (own == BRINGS) {
                return KEPT - MANY + 1;
            }
            return own >= MANY && own <= KEPT ? own - MANY : NONE;
        }
    }
}
