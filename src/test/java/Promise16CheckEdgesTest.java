import java.lang.reflect.Field;

/** Promise 16, at its boundaries. */
public final class Promise16CheckEdgesTest {
    private Promise16CheckEdgesTest() {
    }

    public static void main(String[] args) throws ReflectiveOperationException {
        withoutAParse();
        shortestAndLongest();
        edgesOfMatches();
        ofTheLatestParse();
        wouldTellZero();
        askingDoesNothing();
        Due.end();
    }

    private static void withoutAParse() {
        Due.sentence("Whether the latest parse's steps make its text: 1");
        Counted x = new Counted();
        Due.due("check()", x.check(), 1);
        x.fill('a', 500);
        Due.due("check() of no parse", x.check(), 1);
        Due.due("parse refused", x.parse(3), -1);
        Due.due("check()", x.check(), 1);
    }

    private static void shortestAndLongest() {
        Due.sentence("Whether the latest parse's steps make its text: 1");
        for (int way = 0; way < 3; way++) {
            for (int size : new int[] {0, 1, 2, 3, 4, 255, 256, 257, 499, 500}) {
                Counted x = new Counted();
                x.limits(2, 255, 500);
                if (size > 0) {
                    x.fill(255, size);
                }
                x.parse(way);
                Due.due("check() of one byte " + size + " times", x.check(), 1);
                x = Due.withText(Texts.apart(size));
                x.parse(way);
                Due.due("check() of " + size + " bytes apart", x.check(), 1);
            }
        }
    }

    private static void edgesOfMatches() {
        Due.sentence("Whether the latest parse's steps make its text: 1");
        for (int way = 0; way < 3; way++) {
            for (int distance : new int[] {1, 2, 3, 127, 128, 244, 245, 256, 483, 484}) {
                Counted x = Due.withText(Texts.oneMatch(Math.min(255, 500 - distance), distance));
                x.limits(16, 255, distance);
                x.price(0, 0, 1000);
                Due.due("parse", x.parse(way), distance + 1);
                Due.due("check() of distance " + distance, x.check(), 1);
            }
        }
    }

    private static void ofTheLatestParse() {
        Due.sentence("the latest parse's steps .. its text");
        Counted x = Due.withText("abcabcabc");
        x.parse(0);
        x.fill('z', 3);
        Due.due("with a longer text", x.check(), 1);
        x.clear();
        Due.due("with no text", x.check(), 1);
        Due.typeAll(x, "cbacbacba");
        Due.due("with another text", x.check(), 1);
        x.limits(16, 16, 1);
        Due.due("with other limits", x.check(), 1);
        Due.dueRead(x, Due.bitsOf(3, 16) + Due.alone('x') + Due.alone('y') + Due.alone('z'), 0);
        Due.due("with a text read", x.check(), 1);
        Due.dueRead(x, Due.bitsOf(3, 16) + Due.alone('x'), 1);
        Due.due("with a fault", x.check(), 1);
    }

    /** No run of calls leads to wrong steps, so that a right parse is spoilt from within. */
    private static void wouldTellZero() throws ReflectiveOperationException {
        Due.sentence("it would tell 0");
        // "abc" and a match of 5 at the distance 3, which is the last step or is not
        for (int bytesBehind = 0; bytesBehind < 2; bytesBehind++) {
            for (int by = -1; by <= 1; by += 2) {
                spoilt(bytesBehind, "lengths", 3, by);
                spoilt(bytesBehind, "distances", 3, by);
                for (int i = 0; i < 4 + bytesBehind; i++) {
                    spoilt(bytesBehind, "places", i, by);
                }
            }
            spoilt(bytesBehind, "distances", 3, -3);
            spoilt(bytesBehind, "distances", 2, 1);
        }
        for (int k = 0; k < 8; k++) {
            CheapParse x = parsed(1);
            int[] text = (int[]) within(within(within(x, "latest"), "text"), "row");
            text[k] ^= 64;
            Due.due("check() with another byte " + k, x.check(), 0);
        }
    }

    private static void spoilt(int bytesBehind, String row, int i, int by)
            throws ReflectiveOperationException {
        CheapParse x = parsed(bytesBehind);
        int[] values = (int[]) within(within(x, "latest"), row);
        values[i] += by;
        Due.due("check() with other " + row + " of step " + i, x.check(), 0);
        values[i] -= by;
        Due.due("check() with the right ones again", x.check(), 1);
    }

    private static CheapParse parsed(int bytesBehind) {
        CheapParse x = new CheapParse();
        x.type(Due.packed("abcabcab"), 8);
        x.fill('d', bytesBehind);
        Due.due("parse(1)", x.parse(1), 4 + bytesBehind);
        Due.due("check()", x.check(), 1);
        return x;
    }

    private static Object within(Object holder, String name) throws ReflectiveOperationException {
        Field field = holder.getClass().getDeclaredField(name);
        field.setAccessible(true);
        return field.get(holder);
    }

    private static void askingDoesNothing() {
        Due.sentence("Whether the latest parse's steps make its text: 1");
        Twins.nothingDone("check()", 1, Counted::check);
    }
}
