/** Promise 16, at its boundaries. */
public final class Promise16CheckEdgesTest {
    private Promise16CheckEdgesTest() {
    }

    public static void main(String[] args) {
        withoutAParse();
        shortestAndLongest();
        edgesOfMatches();
        ofTheLatestParse();
        askingDoesNothing();
        Due.end();
    }

    private static void withoutAParse() {
        Due.sentence("Whether the latest parse's steps make its text: 1");
        Counted x = new Counted();
        Due.due("check()", x.check(), 1);
        x.fill('a', 500);
        Due.due("check() of no parse", x.check(), 1);
        Due.due("parse refused", x.parse(3), -1);
        Due.due("check()", x.check(), 1);
    }

    private static void shortestAndLongest() {
        Due.sentence("Whether the latest parse's steps make its text: 1");
        for (int way = 0; way < 3; way++) {
            for (int size : new int[] {0, 1, 2, 3, 4, 255, 256, 257, 499, 500}) {
                Counted x = new Counted();
                x.limits(2, 255, 500);
                if (size > 0) {
                    x.fill(255, size);
                }
                x.parse(way);
                Due.due("check() of one byte " + size + " times", x.check(), 1);
                x = Due.withText(Texts.apart(size));
                x.parse(way);
                Due.due("check() of " + size + " bytes apart", x.check(), 1);
            }
        }
    }

    private static void edgesOfMatches() {
        Due.sentence("Whether the latest parse's steps make its text: 1");
        for (int way = 0; way < 3; way++) {
            for (int distance : new int[] {1, 2, 3, 127, 128, 244, 245, 256, 483, 484}) {
                Counted x = Due.withText(Texts.oneMatch(Math.min(255, 500 - distance), distance));
                x.limits(16, 255, distance);
                x.price(0, 0, 1000);
                Due.due("parse", x.parse(way), distance + 1);
                Due.due("check() of distance " + distance, x.check(), 1);
            }
        }
    }

    private static void ofTheLatestParse() {
        Due.sentence("the latest parse's steps .. its text");
        Counted x = Due.withText("abcabcabc");
        x.parse(0);
        x.fill('z', 3);
        Due.due("with a longer text", x.check(), 1);
        x.clear();
        Due.due("with no text", x.check(), 1);
        Due.typeAll(x, "cbacbacba");
        Due.due("with another text", x.check(), 1);
        x.limits(16, 16, 1);
        Due.due("with other limits", x.check(), 1);
        Due.dueRead(x, Due.bitsOf(3, 16) + Due.alone('x') + Due.alone('y') + Due.alone('z'), 0);
        Due.due("with a text read", x.check(), 1);
        Due.dueRead(x, Due.bitsOf(3, 16) + Due.alone('x'), 1);
        Due.due("with a fault", x.check(), 1);
    }

    private static void askingDoesNothing() {
        Due.sentence("Whether the latest parse's steps make its text: 1");
        Twins.nothingDone("check()", 1, Counted::check);
    }
}
