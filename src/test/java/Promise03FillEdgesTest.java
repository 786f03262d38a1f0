/** Promise 3, at its boundaries. */
public final class Promise03FillEdgesTest {
    private Promise03FillEdgesTest() {
    }

    public static void main(String[] args) {
        everyByte();
        lowestByte();
        howOften();
        badN();
        wouldBeMoreThan500();
        refusedThenTaken();
        seenAtOnce();
        Due.end();
    }

    private static void everyByte() {
        Due.sentence("n times a byte more");
        for (int value = 0; value < 256; value++) {
            Counted x = new Counted();
            Due.due("fill", x.fill(value, 2), 2);
            x.parse(0);
            Due.dueStep(x, 0, 0, 1, 0, value);
            Due.dueStep(x, 1, 1, 1, 0, value);
        }
    }

    private static void lowestByte() {
        Due.sentence("n times a byte more, likewise");
        int[] values = {256, 257, -1, -256, 0x7fffff80, Integer.MIN_VALUE, Integer.MAX_VALUE};
        for (int value : values) {
            Counted x = new Counted();
            Due.due("fill of " + value, x.fill(value, 1), 1);
            x.parse(0);
            Due.dueStep(x, 0, 0, 1, 0, value & 255);
        }
    }

    private static void howOften() {
        Due.sentence("n times a byte more, likewise: how many it has");
        for (int n = 1; n <= 500; n += n < 10 || n > 490 ? 1 : 7) {
            Counted x = new Counted();
            Due.due("fill", x.fill('a', n), n);
            Due.due("clear()", x.clear(), n);
        }
        Counted x = new Counted();
        for (int n = 1; n <= 31; n++) {
            Due.due("fill", x.fill('a', n), n * (n + 1) / 2);
        }
    }

    private static void badN() {
        Due.sentence("n from 1 on");
        for (int n : new int[] {0, -1, -2, -500, -501, Integer.MIN_VALUE, Integer.MIN_VALUE + 1}) {
            Twins.nothingDone("fill(1, " + n + ")", -1, x -> x.fill(1, n));
        }
    }

    private static void wouldBeMoreThan500() {
        Due.sentence("likewise: NONE, and nothing is done, when there would be more than 500");
        for (int n : new int[] {501, 502, 1000, Integer.MAX_VALUE - 500, Integer.MAX_VALUE - 1,
            Integer.MAX_VALUE}) {
            Twins.nothingDone("fill(1, " + n + ")", -1, x -> x.fill(1, n));
        }
        for (int n : new int[] {1, 2, 499, 500}) {
            Twins.nothingDone(Twins::full, "fill(1, " + n + ")", -1, x -> x.fill(1, n));
        }
        for (int size = 1; size <= 499; size += 6) {
            Counted x = new Counted();
            x.fill('a', size);
            Due.due("one too many", x.fill('b', 501 - size), -1);
            Due.due("just as many", x.fill('b', 500 - size), 500);
            Due.due("one more", x.fill('b', 1), -1);
            Due.due("clear()", x.clear(), 500);
        }
    }

    private static void refusedThenTaken() {
        Due.sentence("nothing is done");
        Counted x = new Counted();
        x.fill('a', 2);
        Due.due("fill", x.fill('b', 499), -1);
        Due.due("fill", x.fill('c', 0), -1);
        Due.due("type", x.type('d', 1), 3);
        Due.due("parse(0)", x.parse(0), 3);
        Due.dueStep(x, 1, 1, 1, 0, 'a');
        Due.dueStep(x, 2, 2, 1, 0, 'd');
    }

    private static void seenAtOnce() {
        Due.sentence("n times a byte more");
        Counted x = new Counted();
        for (int size = 1; size <= 9; size++) {
            Due.due("fill", x.fill('a', 1), size);
            Due.due("at(0, 3)", x.at(0, 3), size < 4 ? 8 * size : 32);
            Due.due("at(1, 0)", x.at(1, 0), size < 2 ? -1 : size < 4 ? 0 : size - 1);
            Due.due("parse(1)", x.parse(1), size < 4 ? size : 2);
        }
    }
}
