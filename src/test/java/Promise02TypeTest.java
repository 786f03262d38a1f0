/** Promise 2: type adds the n lowest bytes of a number, the highest of them first. */
public final class Promise02TypeTest {
    private Promise02TypeTest() {
    }

    public static void main(String[] args) {
        Counted x = new Counted();
        Due.due("type 8", x.type(0x0102030405060708L, 8), 8);
        Due.due("type 3 of 8", x.type(0x1112131415161718L, 3), 11);
        Due.due("type 1 of -1", x.type(-1L, 1), 12);
        Due.due("type 8 of -2", x.type(-2L, 8), 20);
        Due.due("n 0", x.type(1L, 0), -1);
        Due.due("n -1", x.type(1L, -1), -1);
        Due.due("n 9", x.type(1L, 9), -1);
        Due.due("n least int", x.type(1L, Integer.MIN_VALUE), -1);
        Due.due("n most int", x.type(1L, Integer.MAX_VALUE), -1);
        Due.due("type 2", x.type(0x8000L, 2), 22);
        int[] want = {1, 2, 3, 4, 5, 6, 7, 8, 0x16, 0x17, 0x18, 255,
            255, 255, 255, 255, 255, 255, 255, 254, 128, 0};
        x.price(1, 0, 1000);
        Due.due("parse(0)", x.parse(0), want.length);
        for (int k = 0; k < want.length; k++) {
            Due.dueStep(x, k, k, 1, 0, want[k]);
        }
        atTheEdge();
        Due.end();
    }

    private static void atTheEdge() {
        Counted x = new Counted();
        for (int k = 1; k <= 62; k++) {
            Due.due("type 8", x.type(k, 8), 8 * k);
        }
        Due.due("type 5 over", x.type(1L, 5), -1);
        Due.due("type 3", x.type(0x414243L, 3), 499);
        Due.due("type 2 over", x.type(1L, 2), -1);
        Due.due("type 1", x.type(0x44L, 1), 500);
        Due.due("type 1 over", x.type(1L, 1), -1);
        Due.due("type 8 over", x.type(1L, 8), -1);
        x.parse(1);
        Due.due("told(4)", x.told(4), 500);
        int last = x.told(0) - 1;
        Due.dueStep(x, last, 499, 1, 0, 0x44);
        Due.dueStep(x, last - 3, 496, 1, 0, 0x41);
        Due.due("clear()", x.clear(), 500);
        Due.due("type after clear", x.type(7L, 1), 1);
    }
}
