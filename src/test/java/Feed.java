/** Brings a text to THE TAPE. */
final class Feed {
    private Feed() {
    }

    /** How many calls it took. */
    static int text(GatheredPoints x, String text) {
        int calls = 0;
        for (int k = 0; k < text.length(); k += 8) {
            int n = Math.min(8, text.length() - k);
            long word = 0;
            for (int i = 0; i < n; i++) {
                word |= (long) (text.charAt(k + i) & 255) << 8 * i;
            }
            x.feed(word, n);
            calls++;
        }
        return calls;
    }
}
