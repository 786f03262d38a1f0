/** Promise 2, at its boundaries. */
public final class Promise02TypeEdgesTest {
    private static final long ALL = 0xF1F2F3F4F5F6F7F8L;

    private Promise02TypeEdgesTest() {
    }

    public static void main(String[] args) {
        lowestBytesHighestFirst();
        extremeNumbers();
        howMany();
        badN();
        wouldBeMoreThan500();
        refusedThenTaken();
        seenAtOnce();
        Due.end();
    }

    private static void lowestBytesHighestFirst() {
        Due.sentence("the n lowest bytes of a number more, the highest of them first");
        for (int n = 1; n <= 8; n++) {
            Counted x = new Counted();
            Due.due("type of " + n, x.type(ALL, n), n);
            Due.due("parse(1)", x.parse(1), n);
            for (int k = 0; k < n; k++) {
                Due.dueStep(x, k, k, 1, 0, 0xF1 + 8 - n + k);
            }
        }
    }

    private static void extremeNumbers() {
        Due.sentence("the n lowest bytes of a number more, the highest of them first");
        long[] numbers = {0L, -1L, Long.MIN_VALUE, Long.MAX_VALUE, 128L, 0x80000000L, 0x7fffffffL};
        for (long number : numbers) {
            for (int n = 1; n <= 8; n++) {
                Counted x = new Counted();
                x.type(number, n);
                x.price(1, 0, 1000);
                Due.due("parse(0)", x.parse(0), n);
                for (int k = 0; k < n; k++) {
                    int value = (int) (number >> 8 * (n - 1 - k)) & 255;
                    Due.due("byte " + k + " of " + number, x.step(k, 3), value);
                }
            }
        }
    }

    private static void howMany() {
        Due.sentence("how many it has");
        Counted x = new Counted();
        int size = 0;
        for (int k = 0; k < 100; k++) {
            int n = 1 + k % 8;
            size += n;
            Due.due("type of " + n, x.type(ALL, n), size);
        }
        Due.due("clear()", x.clear(), size);
    }

    private static void badN() {
        Due.sentence("NONE, and nothing is done, when n is not 1 .. 8");
        for (int n : new int[] {0, -1, -8, 9, 10, 16, 64, 256, 257, 0x10001,
            Integer.MIN_VALUE, Integer.MIN_VALUE + 1, Integer.MAX_VALUE}) {
            Twins.nothingDone("type(.., " + n + ")", -1, x -> x.type(ALL, n));
        }
    }

    private static void wouldBeMoreThan500() {
        Due.sentence("NONE, and nothing is done, when .. there would be more than 500");
        for (int size = 490; size <= 500; size++) {
            for (int n = 1; n <= 8; n++) {
                Counted x = new Counted();
                x.fill(0, size);
                boolean fits = size + n <= 500;
                Due.due(n + " to " + size, x.type(ALL, n), fits ? size + n : -1);
                Due.due("clear()", x.clear(), fits ? size + n : size);
            }
        }
        for (int n = 1; n <= 8; n++) {
            int bytes = n;
            Twins.nothingDone(Twins::full, "type(.., " + n + ")", -1, x -> x.type(ALL, bytes));
        }
    }

    private static void refusedThenTaken() {
        Due.sentence("nothing is done");
        Counted x = new Counted();
        x.fill(0, 497);
        Due.due("4 do not fit", x.type(ALL, 4), -1);
        Due.due("3 do", x.type(0x010203L, 3), 500);
        Due.due("1 does not", x.type(ALL, 1), -1);
        x.parse(1);
        int steps = x.told(0);
        for (int k = 0; k < 3; k++) {
            Due.dueStep(x, steps - 3 + k, 497 + k, 1, 0, k + 1);
        }
        Due.due("clear()", x.clear(), 500);
        Due.due("type", x.type(ALL, 8), 8);
    }

    private static void seenAtOnce() {
        Due.sentence("The text gets the n lowest bytes of a number more");
        Counted x = new Counted();
        for (int size = 1; size <= 9; size++) {
            Due.due("type", x.type('a', 1), size);
            Due.due("at(0, 3)", x.at(0, 3), size < 4 ? 8 * size : 32);
            Due.due("at(1, 0)", x.at(1, 0), size < 2 ? -1 : size < 4 ? 0 : size - 1);
            Due.due("parse(1)", x.parse(1), size < 4 ? size : 2);
        }
    }
}
