/** Promise 1: a new object has no bytes and no parse. */
public final class Promise01NewObjectTest {
    private Promise01NewObjectTest() {
    }

    public static void main(String[] args) {
        Counted x = new Counted();
        Due.dueTold(x, 0, 0, 0, 0, 0);
        Due.due("told(5)", x.told(5), -1);
        Due.dueStep(x, 0, -1, -1, -1, -1);
        Due.due("write()", x.write(), 0);
        Due.due("written(0)", x.written(0), -1);
        Due.due("taken(NONE)", x.taken(-1), -1);
        Due.due("taken(0)", x.taken(0), -1);
        Due.due("check()", x.check(), 1);
        for (int what = 0; what < 3; what++) {
            Due.due("at(0, " + what + ")", x.at(0, what), -1);
        }
        Due.due("at(0, 3), the end", x.at(0, 3), 0);
        Due.due("clear()", x.clear(), 0);
        Due.due("read() of nothing", x.read(), 1);
        firstLimits();
        firstPrices();
        twoObjects();
        Due.end();
    }

    private static void firstLimits() {
        Counted x = Due.withText("ab");
        Due.due("fill", x.fill('c', 498), 500);
        Due.due("least 3: at(497, 0)", x.at(497, 0), 3);
        Due.due("least 3: at(498, 0)", x.at(498, 0), 0);
        Due.due("most 64: at(3, 0)", x.at(3, 0), 64);
        x = Due.withText("xyz");
        x.fill('.', 493);
        x.type(Due.packed("xyz"), 3);
        Due.due("window 500: at(496, 1)", x.at(496, 1), 496);
    }

    private static void firstPrices() {
        Counted x = Due.withText("abcabc");
        x.parse(1);
        Due.due("a match costs 24", x.told(2), 3 * 8 + 24);
        for (int group = 0; group < 8; group++) {
            x = new Counted();
            x.fill(32 * group, 1);
            Due.due("a byte alone costs 8", x.at(0, 3), 8);
        }
    }

    private static void twoObjects() {
        Counted x = Due.withText("aaaa");
        Counted y = new Counted();
        x.price(0, 3, 9);
        x.limits(2, 2, 1);
        x.parse(0);
        Due.dueTold(y, 0, 0, 0, 0, 0);
        Due.due("type", y.type('b', 1), 1);
        Due.due("at(0, 3)", y.at(0, 3), 8);
        Due.due("at(1, 3)", x.at(1, 3), 27);
    }
}
