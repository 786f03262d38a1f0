/** Promise 8: place, length, distance and byte of a step. */
public final class Promise08StepTest {
    private Promise08StepTest() {
    }

    public static void main(String[] args) {
        Counted x = new Counted();
        x.type(0xff00L, 2);
        x.type(0xff00ff00L, 4);
        x.type(0x80L, 1);
        Due.dueStep(x, 0, -1, -1, -1, -1);
        Due.due("parse(0)", x.parse(0), 4);
        Due.dueStep(x, 0, 0, 1, 0, 255);
        Due.dueStep(x, 1, 1, 1, 0, 0);
        Due.dueStep(x, 2, 2, 4, 2, -1);
        Due.dueStep(x, 3, 6, 1, 0, 128);
        Due.dueStep(x, 4, -1, -1, -1, -1);
        Due.dueStep(x, -1, -1, -1, -1, -1);
        Due.dueStep(x, Integer.MIN_VALUE, -1, -1, -1, -1);
        Due.dueStep(x, Integer.MAX_VALUE, -1, -1, -1, -1);
        for (int what : new int[] {-1, 4, Integer.MIN_VALUE, Integer.MAX_VALUE}) {
            Due.due("step(0, " + what + ")", x.step(0, what), -1);
            Due.due("step(2, " + what + ")", x.step(2, what), -1);
        }
        ofTheLatestParse(x);
        Due.end();
    }

    private static void ofTheLatestParse(Counted x) {
        x.clear();
        x.fill(9, 3);
        Due.dueStep(x, 2, 2, 4, 2, -1);
        Due.dueStep(x, 3, 6, 1, 0, 128);
        Due.due("parse(7)", x.parse(7), -1);
        Due.dueStep(x, 0, 0, 1, 0, 255);
        Due.due("parse(1)", x.parse(1), 3);
        Due.dueStep(x, 0, 0, 1, 0, 9);
        Due.dueStep(x, 2, 2, 1, 0, 9);
        Due.dueStep(x, 3, -1, -1, -1, -1);
    }
}
