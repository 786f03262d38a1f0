/** Promise 14: reading, and the faults, of which the first one met is told. */
public final class Promise14ReadTest {
    private static final String A = Due.alone('a');
    private static final String B = Due.alone('b');

    private Promise14ReadTest() {
    }

    public static void main(String[] args) {
        ordinary();
        bytesEnd();
        tooManyBytes();
        badLength();
        badDistance();
        moreBehind();
        firstFaultMet();
        byTheLimitsNow();
        whatStays();
        writtenAndReadAgain();
        Due.end();
    }

    private static String size(int n) {
        return Due.bitsOf(n, 16) + " ";
    }

    private static void good(String bits, String text) {
        Counted x = new Counted();
        Due.dueRead(x, bits, 0);
        Due.dueTaken(x, text);
    }

    private static void bad(String bits, int fault) {
        Counted x = new Counted();
        Due.dueRead(x, bits, fault);
        Due.due("taken(NONE)", x.taken(-1), -1);
        Due.due("the loaded bytes are none", x.load(0L, 1), 1);
    }

    private static void ordinary() {
        good(size(0), "");
        good(size(1) + A, "a");
        good(size(2) + A + B, "ab");
        good(size(5) + A + B + "1 1 0001 0", "ababa");
        good(size(6) + A + B + "1 1 0000" + A, "abbbba");
        good(size(7) + A + "1 00100 0000", "aaaaaaa");
        good(size(8) + A + B + "1 1 0001 0 1 1 0010 01", "ababaaba");
    }

    private static void bytesEnd() {
        bad("", 1);
        bad("00000000", 1);
        bad("00000001", 1);
        bad("11111111", 1);
        bad(size(1), 1);
        bad(size(1) + "00000000", 1);
        bad(size(2) + A + "0000000", 1);
        bad(size(9) + A + B + "1 1 0001 0", 1);
        // the class of a length, its bits, the class of a distance, its bits
        bad(size(100) + A + "1 000000", 1);
        bad(size(100) + A + "1 000001", 1);
        bad(size(100) + A + "1 00001 1", 1);
        bad(size(100) + A + "1 1 00000 11 000 0001", 1);
        bad(size(100) + A + B + A + B + A + B + A + "1", 1);
        bad(size(100) + A + B + A + B + A + B + "1 1", 1);
        bad(size(100) + A + B + A + B + A + "1 1 0", 1);
        bad(size(100) + A + B + A + B + A + "1 1 1", 1);
    }

    private static void tooManyBytes() {
        bad(size(501), 2);
        bad(size(501) + A, 2);
        bad(size(65535), 2);
        bad(size(32768), 2);
        bad(size(500), 1);
    }

    private static void badLength() {
        bad(size(4) + A + "1 010 0000", 3);
        good(size(5) + A + "1 010 0000", "aaaaa");
        bad(size(3) + A + "1 1 0000", 3);
        good(size(4) + A + "1 1 0000", "aaaa");
        // most is 64: told as 62
        good(size(65) + A + "1 00000 111110 0000", "a".repeat(65));
        bad(size(100) + A + "1 00000 111111 0000", 3);
        bad(size(100) + A + "1 000000 1000000 0000", 3);
        bad(size(500) + A + "1 0000000 10000000 0000", 3);
        bad(size(500) + A + "1 00000000 100000000 0000", 3);
        bad(size(500) + A + "1 00000000 111111111 0000", 3);
        bad(size(500) + A + "1 000000000", 3);
        bad(size(500) + A + "1 0000000000000", 3);
        bad(size(500) + A + "1 000000000 1", 3);
    }

    private static void badDistance() {
        bad(size(9) + A + "1 1 0001 0 00000000", 4);
        bad(size(9) + A + B + "1 1 0001 1 00000000", 4);
        good(size(6) + A + B + A + "1 1 0001 1", "abaaba");
        bad(size(9) + "1 1 0000 00000000", 4);
        bad(size(9) + A + "1 1 1111 111111111111111 00000", 4);
        bad(size(9) + A + "1 1 1001 000000000 00000", 4);
        bad(size(9) + A + "1 1 1000 00000000 00000", 4);
    }

    private static void moreBehind() {
        bad(size(0) + "00000000", 5);
        bad(size(0) + "10000000", 5);
        bad(size(0) + "00000000 00000000 00000000", 5);
        bad(size(1) + A + "1", 5);
        bad(size(1) + A + "0000001", 5);
        bad(size(1) + A + "0001", 5);
        bad(size(1) + A + "0000000 00000000", 5);
        bad(size(1) + A + "0000001 00000000", 5);
        bad(size(1) + A + "0000000 00000001", 5);
        // eight bytes alone end with a byte
        String eight = size(8) + A + A + A + A + A + A + A + A;
        good(eight, "aaaaaaaa");
        bad(eight + "00000000", 5);
        bad(eight + "00000001", 5);
        bad(size(4) + A + "1 1 0000 1", 5);
    }

    private static void firstFaultMet() {
        // a length over most before a distance before the beginning, or the bytes' end
        bad(size(100) + "1 00000 111111 0001 1", 3);
        bad(size(100) + A + A + A + "1 000000 1111111", 3);
        // the bytes end just behind eight 0, and just behind nine
        bad(size(500) + A + A + A + A + A + A + A + "1 00000000", 1);
        bad(size(500) + A + A + A + A + A + A + "1 000000000", 3);
        // the bytes end among the distance's bits, before it is told whole
        bad(size(100) + A + B + A + B + "1 1 1111 11", 1);
        bad(size(100) + A + B + A + B + "1 1 1111 1111111111", 1);
        bad(size(100) + A + B + A + B + "1 1 1111 111111111111111", 4);
        // a length that is too long is met when it is told whole
        bad(size(500) + A + B + A + B + A + "1 00", 1);
        bad(size(500) + A + "1 00000000 11111", 1);
        bad(size(501) + A + "1 000000000", 2);
        bad(size(3) + A + "1 1 0001 1", 3);
    }

    private static void byTheLimitsNow() {
        Counted x = new Counted();
        x.limits(2, 4, 2);
        Due.dueRead(x, size(3) + A + "1 1 0000", 0);
        Due.dueTaken(x, "aaa");
        Due.dueRead(x, size(5) + A + "1 011 0000", 0);
        Due.dueRead(x, size(6) + A + "1 00100 0000", 3);
        Due.dueRead(x, size(4) + A + B + "1 1 0001 0", 0);
        Due.dueTaken(x, "abab");
        Due.dueRead(x, size(5) + A + B + A + "1 1 0001 1", 4);
        x.limits(16, 255, 500);
        Due.dueRead(x, size(17) + A + "1 1 0000", 0);
        Due.dueTaken(x, "a".repeat(17));
        Due.dueRead(x, size(256) + A + "1 0000000 11110000 0000", 0);
        Due.due("taken(NONE)", x.taken(-1), 256);
        Due.dueRead(x, size(500) + A + "1 0000000 11110001 0000", 3);
        Due.due("limits", x.limits(1, 1, 1), 0);
        Due.dueRead(x, size(17) + B + "1 1 0000", 0);
        // the limits of the reading are those of read(), not those of load()
        Due.loadBits(x, size(3) + A + "1 1 0000");
        x.limits(2, 255, 500);
        Due.due("read()", x.read(), 0);
        Due.dueTaken(x, "aaa");
    }

    private static void whatStays() {
        Counted x = Due.withText("xyz");
        x.parse(0);
        Due.dueRead(x, size(2) + A + B, 0);
        Due.dueTaken(x, "ab");
        String[] faults = {"", size(1), size(501), size(3) + B + "1 1 0000", size(9) + "1 1 0000",
            size(1) + B + "1"};
        for (int k = 0; k < faults.length; k++) {
            Due.dueRead(x, faults[k], k == 0 ? 1 : k);
            Due.dueTaken(x, "ab");
            Due.due("read() again", x.read(), 1);
        }
        Due.due("check()", x.check(), 1);
        Due.dueTaken(x, "ab");
        Due.dueTold(x, 3, 0, 24, 43, 3);
        Due.due("the text stays", x.clear(), 3);
        Due.dueRead(x, size(0), 0);
        Due.dueTaken(x, "");
    }

    private static void writtenAndReadAgain() {
        String text = "how much wood would a woodchuck chuck if a woodchuck could chuck wood";
        for (int way = 0; way < 3; way++) {
            Counted x = Due.withText(text);
            x.limits(2 + way, 20 - way, 40 + way);
            x.parse(way);
            int size = x.write();
            for (int k = 0; k < size; k++) {
                Due.due("load", x.load(x.written(k), 1), k + 1);
            }
            Due.due("read()", x.read(), 0);
            Due.dueTaken(x, text);
        }
    }
}
