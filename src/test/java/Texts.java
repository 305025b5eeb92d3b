/** Lays texts and bytes on the tape of a WageHats. */
final class Texts {
    private Texts() {
    }

    static int[] bytesOf(String text) {
        int[] bytes = new int[text.length()];
        for (int i = 0; i < bytes.length; i++) {
            bytes[i] = text.charAt(i) & 255;
        }
        return bytes;
    }

    /** The tape must be empty, the bytes must be 1600 at most. */
    static void lay(WageHats x, int[] bytes) {
        for (int from = 0; from < bytes.length; from += 20) {
            int[] five = new int[5];
            for (int i = 0; i < 20; i++) {
                int octet = from + i < bytes.length ? bytes[from + i] & 255 : ' ';
                five[i / 4] = five[i / 4] << 8 | octet;
            }
            x.feed(five[0], five[1], five[2], five[3], five[4]);
        }
        x.end(bytes.length);
    }

    static int town(WageHats x, String text) {
        lay(x, bytesOf(text));
        return x.town();
    }

    static WageHats townOf(String text) {
        WageHats x = new WageHats();
        int statements = town(x, text);
        if (statements < 0) {
            Check.due("town of a good text: " + text + " fault " + x.fault(0) + " at " + x.fault(1), statements, 0);
        }
        return x;
    }

    static boolean image(WageHats x, int... bytes) {
        lay(x, bytes);
        return x.on();
    }
}
