import java.util.Arrays;

/** Promises 36 to 38: images. */
final class ImageTest {
    private static final String TOWN = "hours 10; sort a brings 99 tires 0 mind 0 pride 0 need 1; hat e keeps 0 least 0 looks 0 even;"
            + "hat f keeps 0 least 0 looks 0 before; person p sort a; person q sort a; person r sort a; in p f; in r e;";

    private ImageTest() {
    }

    static void runAll() {
        imageOfNone();
        imageOfATown();
        imageOfTwelve();
        takenImages();
        refusedImages();
        whatStays();
    }

    static int check(int[] bytes, int length) {
        int c = 21;
        for (int i = 0; i < length; i++) {
            c = (7 * c + bytes[i]) % 239;
        }
        return c;
    }

    /** Lays the bytes and their check byte on the tape; whether they are taken. */
    static boolean takes(WageHats x, int... ahead) {
        int[] bytes = Arrays.copyOf(ahead, ahead.length + 1);
        bytes[ahead.length] = check(bytes, ahead.length);
        return Texts.image(x, bytes);
    }

    private static void imageOfNone() {
        WageHats x = new WageHats();
        Check.due("octet ahead of all", x.octet(0), -1);
        Check.due("image of none", x.image(), 4);
        int[] due = {-1, 0, 0, 0, 21 * 343 % 239, -1};
        for (int k = -1; k < 5; k++) {
            Check.due("octet " + k, x.octet(k), due[k + 1]);
        }
        Check.due("none is none", x.on(), false);
        Check.due("taken by none", takes(x, 0, 1, 2), true);
        Check.due("weeks", x.has(6), 258);
    }

    /** 990 is drawn by p and r: 3 times 256 and 222. */
    private static void imageOfATown() {
        WageHats x = Texts.townOf(TOWN);
        x.put(0, 10);
        x.put(1, 4);
        x.put(2, 10);
        x.run(60);
        for (int i = 0; i < 4; i++) {
            x.run(60);
        }
        Check.due("image", x.image(), 16);
        int[] due = {3, 2, 10, 3, 222, 0, 4, 0, 0, 1, 10, 3, 222, 300 / 256, 300 % 256, 0};
        due[15] = check(due, 15);
        x.put(0, 0);
        x.run(1);
        Texts.town(x, "");
        for (int k = 0; k < 16; k++) {
            Check.due("octet " + k, x.octet(k), due[k]);
        }
        Check.due("octet 16", x.octet(16), -1);
        Check.due("octet -1", x.octet(-1), -1);
        Check.due("octet min", x.octet(Integer.MIN_VALUE), -1);
        x.image();
        Check.due("of the latest", x.octet(4), -1);
    }

    private static void imageOfTwelve() {
        StringBuilder text = new StringBuilder("sort a brings 1 tires 0 mind 0 pride 0 need 1; hat h keeps 0 least 0 looks 0 even;");
        int[] due = new int[52];
        due[0] = 12;
        for (int p = 0; p < 12; p++) {
            text.append("person p").append((char) ('a' + p)).append(" sort a;");
            due[4 * p + 2] = p;
        }
        due[49] = 1;
        due[50] = 4;
        WageHats x = Texts.townOf(text.toString());
        Check.due("of twelve, taken", takes(x, Arrays.copyOf(due, 51)), true);
        Check.due("of twelve", x.image(), 52);
        due[51] = check(due, 51);
        for (int k = 0; k < 52; k++) {
            Check.due("of twelve, octet " + k, x.octet(k), due[k]);
        }
        Check.due("of twelve, octet 52", x.octet(52), -1);
    }

    private static void takenImages() {
        WageHats x = Texts.townOf(TOWN);
        x.put(0, 10);
        x.run(2);
        Check.due("had its own", x.drew(0), 0);
        Check.due("taken", takes(x, 3, 0, 1, 255, 255, 2, 0, 0, 0, 1, 10, 1, 2, 39, 15), true);
        Check.due("the tape went", x.end(1), false);
        int[][] due = {{-1, 1, 65535, -1}, {1, 0, 0, -1}, {0, 10, 258, -1}};
        for (int p = 0; p < 3; p++) {
            Check.due("hat of " + p, x.person(p, 1), due[p][0]);
            Check.due("hours of " + p, x.person(p, 2), due[p][1]);
            Check.due("drawn of " + p, x.person(p, 7), due[p][2]);
            Check.due("slip of " + p, x.drew(p), due[p][3]);
        }
        Check.due("weeks", x.has(6), 9999);
        x.image();
        Check.due("image again", x.octet(13) * 256 + x.octet(14), 9999);
        Check.due("drawn again", x.octet(3) * 256 + x.octet(4), 65535);
    }

    private static void refusedImages() {
        WageHats x = Texts.townOf(TOWN);
        int[] good = {3, 2, 1, 0, 0, 0, 2, 0, 0, 1, 3, 0, 0, 0, 9};
        Check.due("the good one", takes(x, good), true);
        int[][] wrong = {{0, 2}, {0, 4}, {1, 3}, {1, 255}, {9, 3}, {2, 11}, {6, 255}, {10, 11}, {13, 40}, {13, 39}, {13, 255}};
        for (int[] change : wrong) {
            int[] bytes = good.clone();
            bytes[change[0]] = change[1];
            bytes[14] = 16;
            Check.due("byte " + change[0] + " is " + change[1], takes(x, bytes), false);
            Check.due("the tape went", x.end(1), false);
        }
        int[] whole = Arrays.copyOf(good, 16);
        whole[15] = check(good, 15);
        for (int c = 0; c < 256; c++) {
            if (c != whole[15]) {
                int[] bytes = whole.clone();
                bytes[15] = c;
                Check.due("check byte " + c, Texts.image(Texts.townOf(TOWN), bytes), false);
            }
        }
        Check.due("too short", takes(x, Arrays.copyOf(good, 14)), false);
        Check.due("too long", takes(x, Arrays.copyOf(good, 16)), false);
        Check.due("four bytes too short", takes(x, Arrays.copyOf(good, 11)), false);
        Check.due("nothing", Texts.image(x), false);
        Check.due("of two persons", takes(x, 2, 0, 0, 0, 0, 0, 0, 0, 0, 0, 0), false);
        Check.due("of four persons", takes(x, 4, 0, 0, 0, 0, 0, 0, 0, 0, 0, 0, 0, 0, 0, 0, 0, 0, 0, 0), false);
        Check.due("all stays", x.has(6) * 1000 + x.person(2, 2) * 100 + x.person(0, 1) * 10 + x.person(1, 2), 9312);
        Check.due("the last hat and hours", takes(x, 3, 2, 10, 0, 0, 2, 10, 0, 0, 0, 0, 0, 0, 0, 0), true);
    }

    private static void whatStays() {
        WageHats x = Texts.townOf(TOWN.replace("least 0 looks 0 even", "least 9 looks 100 even"));
        x.put(0, 2);
        x.put(2, 1);
        x.said(2, 3);
        x.said(0, 2);
        x.keep(1, 50);
        x.run(1);
        Check.due("lost", x.has(7), 99);
        Check.due("taken", takes(x, 3, 0, 1, 0, 0, 0, 0, 0, 0, 0, 0, 0, 0, 0, 0), true);
        Check.due("lost stays", x.has(7), 99);
        Check.due("paid stays", x.person(0, 8), 198);
        Check.due("said stays", x.less(), 5);
        Check.due("keeps stays", x.hat(1, 0), 50);
        Check.due("slips are forgotten", x.drew(0), -1);
        Check.due("town stays", x.has(2), 3);
    }
}
