/** Promise 13: bytes to be read. */
public final class Promise13LoadTest {
    private Promise13LoadTest() {
    }

    public static void main(String[] args) {
        Counted x = new Counted();
        Due.due("n 0", x.load(1L, 0), -1);
        Due.due("n -1", x.load(1L, -1), -1);
        Due.due("n 9", x.load(1L, 9), -1);
        Due.due("n least int", x.load(1L, Integer.MIN_VALUE), -1);
        Due.due("n most int", x.load(1L, Integer.MAX_VALUE), -1);
        // 1 byte of value 0xa5: 0000000000000001 0 10100101 0000000
        Due.due("load 3 of 8", x.load(0x7777777777000152L, 3), 3);
        Due.due("load 1", x.load(0xff80L, 1), 4);
        Due.due("read()", x.read(), 0);
        Due.dueTaken(x, "\u00a5");
        Due.due("load after read", x.load(1L, 8), 8);
        Due.due("the text is another one", x.type(1L, 1), 1);
        Due.due("clear()", x.clear(), 1);
        Due.due("load", x.load(1L, 2), 10);
        atTheEdge();
        aWholeText();
        Due.end();
    }

    private static void atTheEdge() {
        Counted x = new Counted();
        for (int k = 1; k <= 87; k++) {
            Due.due("load 8", x.load(0L, 8), 8 * k);
        }
        Due.due("load 5 over", x.load(1L, 5), -1);
        Due.due("load 8 over", x.load(1L, 8), -1);
        Due.due("load 3", x.load(1L, 3), 699);
        Due.due("load 2 over", x.load(1L, 2), -1);
        Due.due("load 1", x.load(1L, 1), 700);
        Due.due("load 1 over", x.load(1L, 1), -1);
        Due.due("read()", x.read(), 5);
        Due.due("load after read", x.load(1L, 1), 1);
    }

    private static void aWholeText() {
        Counted x = new Counted();
        x.load(500L, 2);
        // 500 times 0 and 11111111 are 4500 bits
        StringBuilder bits = new StringBuilder();
        for (int k = 0; k < 500; k++) {
            bits.append("011111111");
        }
        bits.append("0000");
        for (int k = 0; k < bits.length(); k += 64) {
            String part = bits.substring(k, Math.min(bits.length(), k + 64));
            Due.due("load", x.load(Long.parseUnsignedLong(part, 2), part.length() / 8),
                2 + (k + part.length()) / 8);
        }
        Due.due("read()", x.read(), 0);
        Due.due("taken(NONE)", x.taken(-1), 500);
        Due.due("taken(499)", x.taken(499), 255);
        Due.due("taken(500)", x.taken(500), -1);
    }
}
