import java.util.Arrays;
import java.util.Random;

/** Random towns and random calls: the program answers as the model does. All promises. */
final class ModelTest {
    private static final int TOWNS = 400;
    private static final int CALLS = 200;

    private ModelTest() {
    }

    static void runAll() {
        for (int seed = 0; seed < TOWNS; seed++) {
            new ModelTest().runOne(seed);
        }
    }

    private Random chance;
    private WageHats x;
    private Model m;
    private String label;

    private void runOne(int seed) {
        chance = new Random(seed * 7919L + 13);
        x = new WageHats();
        m = new Model();
        if (chance.nextInt(10) != 0) {
            newTown();
        }
        cutTown();
        for (int i = 0; i < CALLS && Check.failures() < 50; i++) {
            label = "town " + seed + ", call " + i + ": ";
            call();
        }
    }

    private void newTown() {
        TownMaker maker = TownMaker.make(chance, m.x);
        m = maker.model;
        int got = Texts.town(x, maker.text);
        Check.due("town " + maker.text + " with fault " + x.fault(0) + " at " + x.fault(1), got, maker.statements);
        Check.due("fault(0)", x.fault(0), 0);
        Check.due("fault(1)", x.fault(1), -1);
    }

    /** A good text that is cut off is at fault at its end, or at the word that the cut made. */
    private void cutTown() {
        TownMaker maker = TownMaker.make(chance, 1);
        int cut = chance.nextInt(maker.text.length() + 1);
        String text = maker.text.substring(0, cut);
        String trimmed = text.stripTrailing();
        boolean midWord = cut > 0 && cut < maker.text.length()
                && TownMaker.isWordSign(maker.text.charAt(cut - 1)) && TownMaker.isWordSign(maker.text.charAt(cut));
        if (midWord || trimmed.isEmpty() || trimmed.endsWith(";")) {
            return;
        }
        Check.due("cut town " + text, Texts.town(x, text), -1);
        Check.due("cut town " + text + " fault(0)", x.fault(0), 1);
        Check.due("cut town " + text + " fault(1)", x.fault(1), cut);
    }

    private int aPerson() {
        return chance.nextInt(m.people() + 2) - (chance.nextInt(8) == 0 ? 1 : 0);
    }

    private int aHat() {
        return chance.nextInt(m.hats() + 2) - 1;
    }

    private int aSort() {
        return chance.nextInt(m.sorts.size() + 1) - (chance.nextInt(8) == 0 ? 1 : 0);
    }

    private int someHours() {
        return chance.nextInt(m.most + 3) - 1;
    }

    private int number(int from, int to) {
        return from + chance.nextInt(to - from + 1);
    }

    private void call() {
        int which = chance.nextInt(36);
        if (which < 12) {
            callTown(which);
        } else if (which < 24) {
            callHats(which);
        } else {
            callWeeks(which);
        }
    }

    private void callTown(int which) {
        int p = aPerson();
        int h = aHat();
        int w = number(-1, 10);
        int hours = someHours();
        switch (which) {
            case 0: Check.due(label + "has " + w, x.has(w), m.has(w)); break;
            case 1:
                int kind = number(-1, 3);
                int k = number(-1, 6);
                Check.due(label + "letter " + kind + " " + p + " " + k, x.letter(kind, p, k), m.letter(kind, p, k));
                break;
            case 2: case 3: Check.due(label + "person " + p + " " + w, x.person(p, w), m.person(p, w)); break;
            case 4: case 5: Check.due(label + "hat " + h + " " + w, x.hat(h, w), m.hat(h, w)); break;
            case 6: case 7: Check.due(label + "put " + p + " " + hours, x.put(p, hours), m.put(p, hours)); break;
            case 8: case 9: Check.due(label + "move " + p + " " + h, x.move(p, h), m.move(p, h)); break;
            case 10:
                int keeps = number(-3, 103);
                Check.due(label + "keep " + h + " " + keeps, x.keep(h, keeps), m.keep(h, keeps));
                break;
            default:
                if (chance.nextInt(12) == 0) {
                    newTown();
                }
                break;
        }
    }

    private void callHats(int which) {
        int p = aPerson();
        int h = aHat();
        int sort = aSort();
        int n = number(-1, 21);
        int w = number(0, 1) == 0 ? number(-1, 5) : number(0, 1);
        switch (which) {
            case 12: Check.due(label + "worth " + p + " " + n, x.worth(p, n), m.worth(p, n)); break;
            case 13:
                Check.due(label + "all", x.all(), m.all());
                Check.due(label + "proof", x.proof(), m.proof());
                break;
            case 14: Check.due(label + "rest " + n, x.rest(n), m.rest(n)); break;
            case 15: costly(h, w); break;
            case 16: Check.due(label + "size " + sort + " " + h + " " + n + " " + w, x.size(sort, h, n, w), m.size(sort, h, n, w)); break;
            case 17: Check.due(label + "under " + h + " " + n + " " + w, x.under(h, n % 5, w), m.under(h, n % 5, w)); break;
            case 18: Check.due(label + "ends " + w, x.ends(w), m.ends(w)); break;
            case 19: Check.due(label + "alike " + w, x.alike(w), m.alike(w)); break;
            case 20: Check.due(label + "pair " + p + " " + w, x.pair(p, w), m.pair(p, w)); break;
            case 21: Check.due(label + "would " + p + " " + h, x.would(p, h), m.would(p, h)); break;
            case 22:
                Check.due(label + "wish " + p, x.wish(p), m.wish(p));
                Check.due(label + "gap " + p, x.gap(p), m.gap(p));
                break;
            default:
                if (chance.nextBoolean()) {
                    Check.due(label + "choose " + n, x.choose(n), m.choose(n));
                }
                Check.due(label + "stable", x.stable(), m.stable());
                Check.due(label + "rings " + h + " " + p, x.rings(h, p), m.rings(h, p));
                break;
        }
    }

    private void costly(int h, int w) {
        int sort = aSort();
        switch (chance.nextInt(30)) {
            case 0: Check.due(label + "part " + h + " " + w, x.part(h, w), m.part(h, w)); break;
            case 1: Check.due(label + "look " + h, x.look(h), m.look(h)); break;
            case 2: Check.due(label + "many " + sort + " " + h, x.many(sort, h), m.many(sort, h)); break;
            default: break;
        }
    }

    private void callWeeks(int which) {
        int p = aPerson();
        int n = number(-1, 5);
        int hours = someHours();
        switch (which) {
            case 24:
                int seed = chance.nextInt() >> chance.nextInt(31);
                Check.due(label + "seed " + seed, x.seed(seed), m.seed(seed));
                break;
            case 25: case 26: case 27: case 28: Check.due(label + "run " + n, x.run(n), m.run(n)); break;
            case 29: Check.due(label + "drew " + p, x.drew(p), m.drew(p)); break;
            case 30: Check.due(label + "said " + p + " " + hours, x.said(p, hours), m.said(p, hours)); break;
            case 31: case 32: Check.due(label + "less", x.less(), m.less()); break;
            case 33: image(); break;
            case 34: on(); break;
            default: Check.due(label + "run 60", x.run(60), m.run(60)); break;
        }
    }

    private void image() {
        int[] bytes = m.image();
        Check.due(label + "image", x.image(), bytes.length);
        for (int k = 0; k < bytes.length; k++) {
            Check.due(label + "octet " + k, x.octet(k), bytes[k]);
        }
        Check.due(label + "octet behind", x.octet(bytes.length), -1);
        Check.due(label + "octet ahead", x.octet(-1), -1);
    }

    private void on() {
        int[] bytes = m.image();
        for (int changes = chance.nextInt(4); changes > 0; changes--) {
            int k = chance.nextInt(bytes.length);
            bytes[k] = chance.nextInt(4) == 0 ? chance.nextInt(256) : Math.floorMod(bytes[k] + number(-1, 1), 256);
        }
        if (chance.nextInt(5) != 0) {
            int c = 21;
            for (int k = 0; k < bytes.length - 1; k++) {
                c = (7 * c + bytes[k]) % 239;
            }
            bytes[bytes.length - 1] = c;
        }
        if (chance.nextInt(8) == 0) {
            bytes = Arrays.copyOf(bytes, bytes.length + (chance.nextBoolean() ? 1 : -1));
        }
        boolean due = m.on(bytes);
        Check.due(label + "on " + Arrays.toString(bytes), Texts.image(x, bytes), due);
    }
}
