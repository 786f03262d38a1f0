/** Promise 4: clear takes all bytes away, and nothing else. */
public final class Promise04ClearTest {
    private Promise04ClearTest() {
    }

    public static void main(String[] args) {
        Counted x = Due.withText("abcabcabd");
        x.limits(2, 5, 400);
        x.price(0, 3, 20);
        Due.due("load", x.load(0x000161L, 3), 3);
        Due.due("parse(1)", x.parse(1), 5);
        Due.dueTold(x, 5, 1, 104, 16 + 36 + 1 + 5 + 4 + 1, 9);
        Due.due("write()", x.write(), 8);
        Due.due("clear()", x.clear(), 9);
        Due.due("clear() again", x.clear(), 0);
        Due.dueTold(x, 5, 1, 104, 16 + 36 + 1 + 5 + 4 + 1, 9);
        Due.dueStep(x, 2, 2, 1, 0, 'c');
        Due.dueStep(x, 3, 3, 5, 3, -1);
        Due.due("check()", x.check(), 1);
        Due.due("written(1)", x.written(1), 9);
        Due.due("write() again", x.write(), 8);
        Due.due("at(0, 0)", x.at(0, 0), -1);
        Due.due("at(0, 3)", x.at(0, 3), 0);
        Due.due("at(1, 3)", x.at(1, 3), -1);
        Due.typeAll(x, "zz");
        Due.dueStep(x, 2, 2, 1, 0, 'c');
        Due.dueStep(x, 3, 3, 5, 3, -1);
        Due.due("the prices stay", x.at(0, 3), 40);
        Due.due("the loaded bytes stay", x.load(0L, 1), 4);
        Due.due("parse(1)", x.parse(1), 2);
        Due.due("told(4)", x.told(4), 2);
        x.fill('z', 5);
        Due.due("the limits stay", x.at(1, 0), 5);
        Due.end();
    }
}
