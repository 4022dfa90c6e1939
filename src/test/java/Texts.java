/** Puts texts on a tape. */
final class Texts {
    private Texts() {
    }

    /** Feeds a text, filled up with blanks to whole twenties; answers what the last feed did. */
    static int feed(StrikeAwake x, String text) {
        int last = 0;
        for (int at = 0; at < text.length(); at += 20) {
            int[] n = new int[5];
            for (int k = 0; k < 20; k++) {
                int sign = at + k < text.length() ? text.charAt(at + k) : ' ';
                n[k / 4] = n[k / 4] << 8 | sign & 255;
            }
            last = x.feed(n[0], n[1], n[2], n[3], n[4]);
        }
        return last;
    }

    /** Feeds a text to an empty tape and makes it the parish. */
    static int parish(StrikeAwake x, String text) {
        feed(x, text);
        return x.parish(text.length());
    }

    static StrikeAwake with(String text) {
        StrikeAwake x = new StrikeAwake();
        int people = parish(x, text);
        if (people < 1) {
            Due.fail("the text is refused (fault " + x.fault() + " at " + x.where() + "): " + text);
        }
        return x;
    }
}
