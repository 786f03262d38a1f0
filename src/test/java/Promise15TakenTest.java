/** Promise 15: the text that was read latest. */
public final class Promise15TakenTest {
    private Promise15TakenTest() {
    }

    public static void main(String[] args) {
        Counted x = Due.withText("abc");
        dueNone(x, 0);
        Due.due("taken(NONE)", x.taken(-1), -1);
        x.parse(0);
        x.write();
        Due.due("read() of nothing", x.read(), 1);
        Due.due("taken(NONE)", x.taken(-1), -1);
        dueNone(x, 0);
        Due.dueRead(x, Due.bitsOf(3, 16) + Due.alone(255) + Due.alone(0) + Due.alone(128), 0);
        Due.dueTaken(x, "\u00ff\u0000\u0080");
        dueNone(x, 3);
        x.clear();
        x.fill(1, 4);
        x.parse(0);
        x.write();
        x.load(0L, 1);
        Due.due("check()", x.check(), 1);
        Due.dueTaken(x, "\u00ff\u0000\u0080");
        Due.due("read()", x.read(), 1);
        Due.dueTaken(x, "\u00ff\u0000\u0080");
        Due.dueRead(x, Due.bitsOf(1, 16) + Due.alone(9), 0);
        Due.dueTaken(x, "\u0009");
        dueNone(x, 1);
        Due.dueRead(x, Due.bitsOf(0, 16), 0);
        Due.due("taken(NONE)", x.taken(-1), 0);
        dueNone(x, 0);
        Due.end();
    }

    private static void dueNone(Counted x, int size) {
        for (int k : new int[] {-2, size, size + 1, 499, 500, 501,
            Integer.MIN_VALUE, Integer.MAX_VALUE}) {
            Due.due("taken(" + k + ")", x.taken(k), -1);
        }
    }
}
