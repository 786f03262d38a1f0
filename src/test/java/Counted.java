/**
 * An object under test that counts its calls: what it answers after its 512th is free, so a test
 * that asks it more often is wrong itself.
 */
final class Counted {
    static final int MOST_CALLS = 512;

    private final CheapParse x = new CheapParse();
    private int calls = 0;

    int calls() {
        return calls;
    }

    int type(long bytes, int n) {
        count();
        return x.type(bytes, n);
    }

    int fill(int value, int n) {
        count();
        return x.fill(value, n);
    }

    int clear() {
        count();
        return x.clear();
    }

    int limits(int least, int most, int window) {
        count();
        return x.limits(least, most, window);
    }

    int price(int what, int k, int v) {
        count();
        return x.price(what, k, v);
    }

    int parse(int way) {
        count();
        return x.parse(way);
    }

    int step(int i, int what) {
        count();
        return x.step(i, what);
    }

    int told(int what) {
        count();
        return x.told(what);
    }

    int at(int place, int what) {
        count();
        return x.at(place, what);
    }

    int write() {
        count();
        return x.write();
    }

    int written(int k) {
        count();
        return x.written(k);
    }

    int load(long bytes, int n) {
        count();
        return x.load(bytes, n);
    }

    int read() {
        count();
        return x.read();
    }

    int taken(int k) {
        count();
        return x.taken(k);
    }

    int check() {
        count();
        return x.check();
    }

    private void count() {
        calls++;
        if (calls == MOST_CALLS + 1) {
            Due.due("the test's calls of one object", calls, MOST_CALLS);
        }
    }
}
