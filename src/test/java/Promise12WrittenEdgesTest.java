/** Promise 12, at its boundaries. */
public final class Promise12WrittenEdgesTest {
    private Promise12WrittenEdgesTest() {
    }

    public static void main(String[] args) {
        nothingWritten();
        firstAndLast();
        writtenLatest();
        shorterAfterLonger();
        longest();
        askingDoesNothing();
        Due.end();
    }

    private static void dueNoneBut(Counted x, int size) {
        for (int k : new int[] {Integer.MIN_VALUE, -256, -2, -1, size, size + 1, size + 8, 565, 566,
            700, 65536, Integer.MAX_VALUE}) {
            Due.due("written(" + k + ") of " + size, x.written(k), -1);
        }
    }

    private static void nothingWritten() {
        Due.sentence("NONE when there is none");
        Counted x = new Counted();
        dueNoneBut(x, 0);
        Due.due("write() without a parse", x.write(), 0);
        dueNoneBut(x, 0);
        x.fill('a', 3);
        x.parse(0);
        // a parse alone writes nothing
        dueNoneBut(x, 0);
    }

    private static void firstAndLast() {
        Due.sentence("Byte k of what was written latest");
        for (int size = 0; size <= 9; size++) {
            Counted x = new Counted();
            if (size > 0) {
                x.fill(255, size);
            }
            x.price(1, 0, 1000);
            x.parse(0);
            int bytes = x.write();
            Due.due("write()", bytes, 2 + (9 * size + 7) / 8);
            Due.due("written(0)", x.written(0), 0);
            Due.due("written(1)", x.written(1), size);
            int bits = (9 * size + 7) % 8 + 1;
            int last = size == 0 ? 0 : 255 << (8 - bits) & 255;
            Due.due("the last", x.written(bytes - 1), last);
            dueNoneBut(x, bytes);
        }
    }

    private static void writtenLatest() {
        Due.sentence("what was written latest");
        Counted x = Due.withText("a");
        x.parse(0);
        x.write();
        int[] want = {0, 1, 0x30, 0x80};
        dueBytes(x, want);
        x.clear();
        x.fill('b', 100);
        dueBytes(x, want);
        x.limits(16, 255, 1);
        x.price(0, 3, 9);
        dueBytes(x, want);
        x.parse(0);
        dueBytes(x, want);
        Due.dueRead(x, Due.bitsOf(1, 16) + Due.alone('c'), 0);
        Due.dueRead(x, Due.bitsOf(1, 16), 1);
        Due.due("check()", x.check(), 1);
        Due.due("parse refused", x.parse(3), -1);
        dueBytes(x, want);
        // 99 by least 16 is told as 84, class 6
        Due.dueWritten(x, Due.bitsOf(100, 16) + Due.alone('b') + "1 000000 1010100 0000");
    }

    private static void dueBytes(Counted x, int[] want) {
        for (int k = 0; k < want.length; k++) {
            Due.due("written(" + k + ")", x.written(k), want[k]);
        }
        dueNoneBut(x, want.length);
    }

    private static void shorterAfterLonger() {
        Due.sentence("NONE when there is none");
        Counted x = Due.withText(Texts.apart(40));
        x.parse(0);
        Due.due("write()", x.write(), 47);
        Due.due("written(46)", x.written(46), 39);
        x.clear();
        x.parse(0);
        Due.due("written(46)", x.written(46), 39);
        Due.due("write()", x.write(), 2);
        dueBytes(x, new int[] {0, 0});
        Due.due("written(46)", x.written(46), -1);
    }

    private static void longest() {
        Due.sentence("Byte k of what was written latest");
        Counted x = new Counted();
        x.fill(255, 500);
        x.price(1, 0, 1000);
        x.limits(2, 2, 500);
        x.parse(0);
        Due.due("write()", x.write(), 565);
        // four bits of the last byte alone, its 0 among those of the byte before
        Due.due("written(563)", x.written(563), 0xef);
        Due.due("written(564)", x.written(564), 0xf0);
        dueNoneBut(x, 565);
    }

    private static void askingDoesNothing() {
        Due.sentence("NONE when there is none");
        Twins.nothingDone("written(-1)", -1, x -> x.written(-1));
        Twins.nothingDone("written(565)", -1, x -> x.written(565));
    }
}
