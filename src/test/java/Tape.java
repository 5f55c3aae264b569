/** Puts texts on the tape of an HourLines. */
final class Tape {
    private Tape() {
    }

    /** The tape holds just this text then (300 bytes at most). */
    static int put(HourLines x, String text) {
        x.end(0);
        for (int from = 0; from < text.length(); from += 20) {
            int[] five = new int[5];
            for (int i = 0; i < 20; i++) {
                int sign = from + i < text.length() ? text.charAt(from + i) & 255 : 0;
                five[i / 4] = five[i / 4] << 8 | sign;
            }
            x.feed(five[0], five[1], five[2], five[3], five[4]);
        }
        return x.end(text.length());
    }

    static int tell(HourLines x, String text) {
        put(x, text);
        return x.text();
    }

    /** Tells a text and lets it rule. */
    static boolean rule(HourLines x, String text) {
        return x.by(tell(x, text));
    }
}
