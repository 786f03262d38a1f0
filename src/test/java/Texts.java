/** Texts that show a single boundary, and nothing else beside it. */
final class Texts {
    private Texts() {
    }

    /** Up to 500 bytes of which no two follow each other twice: nothing in them is a match. */
    static String apart(int n) {
        StringBuilder text = new StringBuilder();
        for (int k = 0; k < n; k++) {
            text.append((char) (k < 256 ? k : 7 * k + 3 & 255));
        }
        return text.toString();
    }

    /** Up to place "distance" there is no match, there is one of this length, up to the end. */
    static String oneMatch(int length, int distance) {
        StringBuilder text = new StringBuilder(apart(distance));
        for (int k = 0; k < length; k++) {
            text.append(text.charAt(k));
        }
        return text.toString();
    }
}
