/** Counts the answers that are not the ones due, and the ways of using an object that tests share. */
final class Due {
    private static int wrong = 0;
    private static int asked = 0;
    private static String sentence = "";

    private Due() {
    }

    static void due(String call, long got, long want) {
        asked++;
        if (got != want) {
            wrong++;
            System.out.println(sentence + call + " answered " + got + ", due is " + want);
        }
    }

    /** The document's words that the next answers are asked for, told with the wrong ones. */
    static void sentence(String words) {
        sentence = "\"" + words + "\": ";
    }

    static void end() {
        if (asked == 0) {
            System.out.println("nothing was asked");
        }
        if (wrong != 0) {
            System.out.println(wrong + " of " + asked + " answers are not as due");
        }
        if (wrong != 0 || asked == 0) {
            System.exit(1);
        }
    }

    /** A new object with this text, a character a byte. */
    static Counted withText(String text) {
        Counted x = new Counted();
        typeAll(x, text);
        return x;
    }

    static void typeAll(Counted x, String text) {
        for (int k = 0; k < text.length(); k += 8) {
            String part = text.substring(k, Math.min(text.length(), k + 8));
            due("type of " + part, x.type(packed(part), part.length()), k + part.length());
        }
    }

    /** The bytes of a short text as one number, the first the highest. */
    static long packed(String part) {
        long bytes = 0;
        for (int k = 0; k < part.length(); k++) {
            bytes = bytes << 8 | part.charAt(k) & 255;
        }
        return bytes;
    }

    /** The step as place, length, distance and byte. */
    static void dueStep(Counted x, int i, int place, int length, int distance, int value) {
        due("step(" + i + ", 0)", x.step(i, 0), place);
        due("step(" + i + ", 1)", x.step(i, 1), length);
        due("step(" + i + ", 2)", x.step(i, 2), distance);
        due("step(" + i + ", 3)", x.step(i, 3), value);
    }

    static void dueTold(Counted x, int steps, int matches, int price, int bits, int bytes) {
        due("told(0)", x.told(0), steps);
        due("told(1)", x.told(1), matches);
        due("told(2)", x.told(2), price);
        due("told(3)", x.told(3), bits);
        due("told(4)", x.told(4), bytes);
    }

    /** The written bytes, told as bits with spaces anywhere between them. */
    static void dueWritten(Counted x, String bits) {
        String all = wholeBytes(bits);
        due("write()", x.write(), all.length() / 8);
        for (int k = 0; k < all.length() / 8; k++) {
            int value = Integer.parseInt(all.substring(8 * k, 8 * k + 8), 2);
            due("written(" + k + ")", x.written(k), value);
        }
        due("written(size)", x.written(all.length() / 8), -1);
    }

    /** Loads bits, told with spaces anywhere between them; the last byte is filled with 0. */
    static void loadBits(Counted x, String bits) {
        String all = wholeBytes(bits);
        for (int k = 0; k < all.length(); k += 8) {
            due("load of a byte", x.load(Long.parseLong(all.substring(k, k + 8), 2), 1), k / 8 + 1);
        }
    }

    static void dueRead(Counted x, String bits, int fault) {
        loadBits(x, bits);
        due("read of " + bits, x.read(), fault);
    }

    static void dueTaken(Counted x, String text) {
        due("taken(NONE)", x.taken(-1), text.length());
        for (int k = 0; k < text.length(); k++) {
            due("taken(" + k + ")", x.taken(k), text.charAt(k) & 255);
        }
        due("taken(size)", x.taken(text.length()), -1);
    }

    static String bitsOf(int value, int n) {
        StringBuilder bits = new StringBuilder();
        for (int k = n - 1; k >= 0; k--) {
            bits.append((value >> k) & 1);
        }
        return bits.toString();
    }

    /** A byte alone, as it is written. */
    static String alone(int value) {
        return "0" + bitsOf(value, 8) + " ";
    }

    private static String wholeBytes(String bits) {
        StringBuilder all = new StringBuilder(bits.replace(" ", ""));
        while (all.length() % 8 != 0) {
            all.append('0');
        }
        return all.toString();
    }
}
