import java.util.Random;

/**
 * No call may throw or fail to end, for any arguments in any state: every call with every kind of
 * number, the edges of all ranges among them, answers as the model does.
 */
public final class AnyArgumentsTest {
    private static final int RUNS = 400;
    /** A longer text would make the model slow. */
    private static final int LONG_TEXT = 60;
    private static final int[] NUMBERS = {Integer.MIN_VALUE, Integer.MIN_VALUE + 1, -65536, -501,
        -256, -9, -2, -1, 0, 1, 2, 3, 4, 5, 7, 8, 9, 15, 16, 17, 31, 32, 63, 64, 65, 127, 128, 254,
        255, 256, 257, 498, 499, 500, 501, 502, 511, 512, 513, 699, 700, 701, 999, 1000, 1001,
        65535, 65536, Integer.MAX_VALUE - 1, Integer.MAX_VALUE};
    /** Among them, by their lowest bytes, two texts to be read. */
    private static final long[] LONG_NUMBERS = {Long.MIN_VALUE, Long.MIN_VALUE + 1, -1L, 0L, 1L,
        0x00015280L, 0x000430A000L, 0x7fffffffL, 0x80000000L, 0xffffffffL, 0x100000000L,
        Long.MAX_VALUE};

    private final Random any;
    private final Counted x = new Counted();
    private final Model model = new Model();
    private final int run;

    private AnyArgumentsTest(int run) {
        this.run = run;
        any = new Random(run);
    }

    public static void main(String[] args) {
        for (int run = 0; run < RUNS; run++) {
            AnyArgumentsTest test = new AnyArgumentsTest(run);
            while (test.x.calls() < Counted.MOST_CALLS) {
                test.goOn();
            }
        }
        Due.end();
    }

    private int number() {
        return any.nextInt(3) == 0 ? any.nextInt(10) - 1 : NUMBERS[any.nextInt(NUMBERS.length)];
    }

    private long longNumber() {
        return any.nextInt(3) == 0 ? any.nextLong()
            : LONG_NUMBERS[any.nextInt(LONG_NUMBERS.length)];
    }

    private void due(String call, int got, int want) {
        Due.due("run " + run + ", call " + x.calls() + ": " + call, got, want);
    }

    private void goOn() {
        int a = number();
        int b = number();
        if (model.at(LONG_TEXT, 3) >= 0) {
            due("clear()", x.clear(), model.clear());
        } else if (any.nextBoolean()) {
            change(a, b, number());
        } else {
            ask(a, b);
        }
    }

    private void change(int a, int b, int c) {
        long bytes = longNumber();
        switch (any.nextInt(7)) {
            case 0:
                due("type(" + bytes + ", " + a + ")", x.type(bytes, a), model.type(bytes, a));
                break;
            case 1:
                int n = b > LONG_TEXT && b <= 500 ? b % LONG_TEXT : b;
                due("fill(" + a + ", " + n + ")", x.fill(a, n), model.fill(a, n));
                break;
            case 2:
                due("limits(" + a + ", " + b + ", " + c + ")",
                    x.limits(a, b, c), model.limits(a, b, c));
                break;
            case 3:
                due("price(" + a + ", " + b + ", " + c + ")",
                    x.price(a, b, c), model.price(a, b, c));
                break;
            case 4:
                due("parse(" + a + ")", x.parse(a), model.parse(a));
                break;
            case 5:
                due("load(" + bytes + ", " + a + ")", x.load(bytes, a), model.load(bytes, a));
                break;
            default:
                due("read()", x.read(), model.read());
                break;
        }
    }

    private void ask(int a, int b) {
        switch (any.nextInt(7)) {
            case 0:
                due("step(" + a + ", " + b + ")", x.step(a, b), model.step(a, b));
                break;
            case 1:
                due("told(" + a + ")", x.told(a), model.told(a));
                break;
            case 2:
                due("at(" + a + ", " + b + ")", x.at(a, b), model.at(a, b));
                break;
            case 3:
                due("write()", x.write(), model.write());
                break;
            case 4:
                due("written(" + a + ")", x.written(a), model.written(a));
                break;
            case 5:
                due("taken(" + a + ")", x.taken(a), model.taken(a));
                break;
            default:
                due("check()", x.check(), model.check());
                break;
        }
    }
}
