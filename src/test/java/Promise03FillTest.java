/** Promise 3: fill adds n times a byte. */
public final class Promise03FillTest {
    private Promise03FillTest() {
    }

    public static void main(String[] args) {
        Counted x = new Counted();
        Due.due("fill 1", x.fill(7, 1), 1);
        Due.due("fill 2", x.fill(255, 2), 3);
        Due.due("fill by the lowest byte", x.fill(0x1234, 1), 4);
        Due.due("fill by the lowest byte of -2", x.fill(-2, 1), 5);
        Due.due("fill 0 times", x.fill(1, 0), -1);
        Due.due("fill -1 times", x.fill(1, -1), -1);
        Due.due("fill least int times", x.fill(1, Integer.MIN_VALUE), -1);
        Due.due("fill most int times", x.fill(1, Integer.MAX_VALUE), -1);
        Due.due("fill 496 over", x.fill(1, 496), -1);
        int[] want = {7, 255, 255, 0x34, 254};
        Due.due("parse(1)", x.parse(1), 5);
        for (int k = 0; k < want.length; k++) {
            Due.dueStep(x, k, k, 1, 0, want[k]);
        }
        Due.due("fill 495", x.fill(9, 495), 500);
        Due.due("fill 1 over", x.fill(9, 1), -1);
        x.parse(1);
        Due.due("told(4)", x.told(4), 500);
        Due.due("at(5, 0)", x.at(5, 0), 0);
        Due.due("at(6, 0)", x.at(6, 0), 64);
        Due.due("fill 500", new Counted().fill(0, 500), 500);
        Due.due("fill 501", new Counted().fill(0, 501), -1);
        Due.end();
    }
}
