/** Promise 12: the bytes of what was written latest. */
public final class Promise12WrittenTest {
    private Promise12WrittenTest() {
    }

    public static void main(String[] args) {
        Counted x = new Counted();
        dueNone(x, 0);
        x.write();
        dueNone(x, 0);
        x.fill(0xff, 2);
        x.parse(0);
        dueNone(x, 0);
        Due.due("write()", x.write(), 5);
        int[] want = {0, 2, 0x7f, 0xbf, 0xc0};
        dueBytes(x, want);
        x.clear();
        x.fill(1, 1);
        dueBytes(x, want);
        x.parse(1);
        dueBytes(x, want);
        Due.due("load", x.load(0x000100L, 3), 3);
        Due.due("read()", x.read(), 1);
        dueBytes(x, want);
        Due.due("write()", x.write(), 4);
        dueBytes(x, new int[] {0, 1, 0, 0x80});
        Due.end();
    }

    private static void dueBytes(Counted x, int[] want) {
        for (int k = 0; k < want.length; k++) {
            Due.due("written(" + k + ")", x.written(k), want[k]);
        }
        dueNone(x, want.length);
    }

    private static void dueNone(Counted x, int size) {
        for (int k : new int[] {-1, size, size + 1, 564, 565, 700,
            Integer.MIN_VALUE, Integer.MAX_VALUE}) {
            Due.due("written(" + k + ")", x.written(k), -1);
        }
    }
}
