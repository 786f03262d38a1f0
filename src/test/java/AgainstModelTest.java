/** Runs of mixed calls on new objects, each answered by the model too. */
public final class AgainstModelTest {
    private static final int RUNS = 600;
    /** More than any of the ways of going on asks at once. */
    private static final int BURST = 150;

    private final Counted x = new Counted();
    private final Model model = new Model();
    private final int run;
    private long state;
    private int calls = 0;

    private AgainstModelTest(int run) {
        this.run = run;
        state = run * 0x9E3779B97F4A7C15L + 1;
    }

    public static void main(String[] args) {
        for (int run = 0; run < RUNS; run++) {
            new AgainstModelTest(run).go();
        }
        Due.end();
    }

    /** From 0 to n - 1; every run has its own row of them, always the same. */
    private int any(int n) {
        state = state * 6364136223846793005L + 1442695040888963407L;
        return (int) ((state >>> 33) % n);
    }

    private void due(String call, int got, int want) {
        calls++;
        Due.due("run " + run + ", call " + calls + ": " + call, got, want);
    }

    private void go() {
        int letters = 1 + any(4);
        int roomy = any(25) == 0 ? 160 : 10 + any(60);
        boolean nearPrices = any(2) == 0;
        someLimits();
        while (calls < Counted.MOST_CALLS - BURST) {
            switch (any(9)) {
                case 0:
                case 1:
                    someText(letters, roomy);
                    break;
                case 2:
                    someLimits();
                    break;
                case 3:
                    somePrices(nearPrices);
                    break;
                case 4:
                    somePlaces();
                    break;
                case 5:
                case 6:
                    someParse();
                    break;
                case 7:
                    someReading();
                    break;
                default:
                    oddCall();
                    break;
            }
        }
        // the last call that is promised is the 512th
        while (calls < Counted.MOST_CALLS) {
            oddCall();
        }
        Due.due("the calls of a run", x.calls(), Counted.MOST_CALLS);
    }

    private void someText(int letters, int roomy) {
        if (any(12) == 0 || model.at(roomy, 3) >= 0) {
            due("clear()", x.clear(), model.clear());
        }
        if (any(4) == 0) {
            int value = 64 * any(letters) - any(2) * 256;
            int n = any(roomy);
            due("fill(" + value + ", " + n + ")", x.fill(value, n), model.fill(value, n));
            return;
        }
        for (int k = 1 + any(3); k > 0; k--) {
            long bytes = 0;
            for (int i = 0; i < 8; i++) {
                bytes = bytes << 8 | 64 * any(letters);
            }
            int n = 1 + any(8);
            due("type(" + bytes + ", " + n + ")", x.type(bytes, n), model.type(bytes, n));
        }
    }

    private void someLimits() {
        int least = 1 + (any(3) == 0 ? any(17) : any(5));
        int most = least - 1 + (any(3) == 0 ? any(256) : any(8));
        int window = any(3) == 0 ? any(502) : any(20);
        due("limits(" + least + ", " + most + ", " + window + ")",
            x.limits(least, most, window), model.limits(least, most, window));
    }

    private void somePrices(boolean near) {
        for (int n = 1 + any(6); n > 0; n--) {
            int what = any(4);
            int k = any(9);
            int v = near ? 1 + any(6) : any(4) == 0 ? any(1003) : 1 + any(40);
            due("price(" + what + ", " + k + ", " + v + ")",
                x.price(what, k, v), model.price(what, k, v));
        }
    }

    private void somePlaces() {
        for (int n = 1 + any(5); n > 0; n--) {
            int place = any(60) - 1;
            int what = any(4);
            due("at(" + place + ", " + what + ")", x.at(place, what), model.at(place, what));
        }
    }

    private void someParse() {
        int way = any(3);
        due("parse(" + way + ")", x.parse(way), model.parse(way));
        for (int what = 0; what < 5; what++) {
            due("told(" + what + ")", x.told(what), model.told(what));
        }
        for (int n = any(14); n > 0; n--) {
            int i = any(Math.max(1, model.told(0)) + 1);
            int what = any(4);
            due("step(" + i + ", " + what + ")", x.step(i, what), model.step(i, what));
        }
        due("check()", x.check(), model.check());
    }

    private void someReading() {
        due("write()", x.write(), model.write());
        int size = 0;
        while (model.written(size) >= 0) {
            size++;
        }
        if (size > 60) {
            return;
        }
        int spoilt = any(3) == 0 ? any(size + 1) : -1;
        int kept = any(6) == 0 ? any(size + 1) : size;
        for (int k = 0; k < kept; k++) {
            due("written(" + k + ")", x.written(k), model.written(k));
            long value = model.written(k) ^ (k == spoilt ? 1 << any(8) : 0);
            due("load(" + value + ", 1)", x.load(value, 1), model.load(value, 1));
        }
        if (any(8) == 0) {
            long value = any(2);
            due("load(" + value + ", 1)", x.load(value, 1), model.load(value, 1));
        }
        due("read()", x.read(), model.read());
        due("taken(-1)", x.taken(-1), model.taken(-1));
        for (int n = any(12); n > 0; n--) {
            int k = any(40);
            due("taken(" + k + ")", x.taken(k), model.taken(k));
        }
    }

    private void oddCall() {
        int a = any(8) - 2;
        int b = any(8) - 2;
        switch (any(9)) {
            case 0:
                due("type(1, " + 3 * a + ")", x.type(1, 3 * a), model.type(1, 3 * a));
                break;
            case 1:
                due("load(1, " + 3 * a + ")", x.load(1, 3 * a), model.load(1, 3 * a));
                break;
            case 2:
                due("read()", x.read(), model.read());
                break;
            case 3:
                due("parse(" + a + ")", x.parse(a), model.parse(a));
                break;
            case 4:
                due("told(" + a + ")", x.told(a), model.told(a));
                break;
            case 5:
                due("at(" + a + ", " + b + ")", x.at(a, b), model.at(a, b));
                break;
            case 6:
                due("step(" + a + ", " + b + ")", x.step(a, b), model.step(a, b));
                break;
            case 7:
                due("price(" + a + ", " + b + ", 9)", x.price(a, b, 9), model.price(a, b, 9));
                break;
            default:
                due("written(" + a + ")", x.written(a), model.written(a));
                break;
        }
    }
}
