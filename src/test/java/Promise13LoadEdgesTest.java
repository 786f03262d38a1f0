/** Promise 13, at its boundaries. */
public final class Promise13LoadEdgesTest {
    private static final long ALL = 0xF1F2F3F4F5F6F7F8L;

    private Promise13LoadEdgesTest() {
    }

    public static void main(String[] args) {
        lowestBytesHighestFirst();
        badN();
        wouldBeMoreThan700();
        notTheText();
        noneAfterReading();
        refusedThenTaken();
        Due.end();
    }

    /** A text of n bytes alone, loaded by one number more, shows each of its bits. */
    private static void lowestBytesHighestFirst() {
        Due.sentence("like type()");
        for (int n = 1; n <= 8; n++) {
            Counted x = new Counted();
            Due.due("load", x.load(n - 1, 2), 2);
            // the bytes 0xff, 0, 0xff .., and above them what is not among the n lowest
            StringBuilder bits = new StringBuilder();
            for (int k = 0; k < n - 1; k++) {
                bits.append(k % 2 == 0 ? "011111111" : "000000000");
            }
            bits.append("0".repeat(8 * n - bits.length()));
            long number = Long.parseUnsignedLong(bits.toString(), 2);
            long above = n == 8 ? 0 : -1L << 8 * n;
            boolean fits = (9 * (n - 1) + 7) / 8 == n;
            Due.due("load of " + n, x.load(number | above, n), 2 + n);
            Due.due("read()", x.read(), fits ? 0 : 5);
            for (int k = 0; fits && k < n - 1; k++) {
                Due.due("taken(" + k + ")", x.taken(k), k % 2 == 0 ? 255 : 0);
            }
        }
    }

    private static void badN() {
        Due.sentence("like type(): NONE, and nothing is done, when n is not 1 .. 8");
        for (int n : new int[] {0, -1, -8, 9, 10, 16, 64, 256, 257, 0x10001,
            Integer.MIN_VALUE, Integer.MIN_VALUE + 1, Integer.MAX_VALUE}) {
            Twins.nothingDone("load(.., " + n + ")", -1, x -> x.load(ALL, n));
        }
    }

    private static Counted withLoaded(int size) {
        Counted x = new Counted();
        for (int left = size; left > 0; left -= Math.min(8, left)) {
            int n = Math.min(8, left);
            Due.due("load", x.load(0L, n), size - left + n);
        }
        return x;
    }

    private static void wouldBeMoreThan700() {
        Due.sentence("at most 700 in all");
        for (int size = 690; size <= 700; size++) {
            for (int n = 1; n <= 8; n++) {
                Counted x = withLoaded(size);
                boolean fits = size + n <= 700;
                Due.due(n + " to " + size, x.load(ALL, n), fits ? size + n : -1);
                int now = fits ? size + n : size;
                Due.due("one more", x.load(0L, 1), now < 700 ? now + 1 : -1);
            }
        }
        for (int n = 1; n <= 8; n++) {
            int bytes = n;
            Twins.nothingDone(Twins::full, "load(.., " + n + ")", -1, x -> x.load(ALL, bytes));
        }
        Due.due("more than a text has", withLoaded(500).load(0L, 1), 501);
    }

    private static void notTheText() {
        Due.sentence("The bytes to be read get some more");
        Counted x = new Counted();
        x.fill('a', 500);
        Due.due("beside a full text", x.load(ALL, 8), 8);
        Due.due("clear()", x.clear(), 500);
        Due.due("clear() takes none of them", x.load(ALL, 8), 16);
        Due.due("parse(0)", x.parse(0), 0);
        Due.due("write()", x.write(), 2);
        Due.due("neither writing", x.load(ALL, 1), 17);
    }

    private static void noneAfterReading() {
        Due.sentence("at most 700 in all");
        Counted x = withLoaded(700);
        Due.due("full", x.load(0L, 1), -1);
        Due.due("read()", x.read(), 5);
        Due.due("load", x.load(0L, 8), 8);
        Due.due("read()", x.read(), 5);
        Due.due("load", x.load(0L, 2), 2);
        Due.due("read()", x.read(), 0);
        Due.due("load", x.load(0L, 1), 1);
    }

    private static void refusedThenTaken() {
        Due.sentence("nothing is done");
        Counted x = new Counted();
        Due.due("load", x.load(1L, 2), 2);
        Due.due("refused", x.load(ALL, 9), -1);
        Due.due("load", x.load(0x7fL, 1), 3);
        Due.due("refused", x.load(ALL, 0), -1);
        Due.due("load", x.load(0x80L, 1), 4);
        Due.due("read()", x.read(), 0);
        Due.dueTaken(x, "\u00ff");
    }
}
