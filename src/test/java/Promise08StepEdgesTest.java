/** Promise 8, at its boundaries. */
public final class Promise08StepEdgesTest {
    private static final int[] FAR = {Integer.MIN_VALUE, -257, -2, -1, 500, 501, 512, 65536,
        Integer.MAX_VALUE};

    private Promise08StepEdgesTest() {
    }

    public static void main(String[] args) {
        noneWithoutAParse();
        noneOfAnEmptyParse();
        firstAndLast();
        noSuchWhat();
        byteOrMatch();
        fiveHundred();
        ofTheLatestParse();
        askingDoesNothing();
        Due.end();
    }

    private static void dueNone(Counted x, int i) {
        Due.dueStep(x, i, -1, -1, -1, -1);
    }

    private static void noneWithoutAParse() {
        Due.sentence("NONE when there is none such");
        Counted x = Due.withText("abcabc");
        dueNone(x, 0);
        dueNone(x, 1);
        for (int i : FAR) {
            dueNone(x, i);
        }
        Due.due("parse(5)", x.parse(5), -1);
        dueNone(x, 0);
    }

    private static void noneOfAnEmptyParse() {
        Due.sentence("NONE when there is none such");
        for (int way = 0; way < 3; way++) {
            Counted x = new Counted();
            x.parse(way);
            dueNone(x, 0);
            dueNone(x, -1);
        }
    }

    private static void firstAndLast() {
        Due.sentence("NONE when there is none such");
        for (int size = 1; size <= 20; size++) {
            Counted x = Due.withText(Texts.apart(size));
            Due.due("parse(0)", x.parse(0), size);
            dueNone(x, -1);
            Due.dueStep(x, 0, 0, 1, 0, 0);
            Due.dueStep(x, size - 1, size - 1, 1, 0, size - 1);
            dueNone(x, size);
            dueNone(x, size + 1);
            for (int i : FAR) {
                dueNone(x, i);
            }
        }
    }

    private static void noSuchWhat() {
        Due.sentence("NONE when there is none such");
        Counted x = Due.withText("abcabc");
        x.parse(1);
        for (int i = -1; i <= 4; i++) {
            for (int what : new int[] {Integer.MIN_VALUE, -2, -1, 4, 5, 256, Integer.MAX_VALUE}) {
                Due.due("step(" + i + ", " + what + ")", x.step(i, what), -1);
            }
        }
    }

    private static void byteOrMatch() {
        Due.sentence("distance (2; 0 for a byte alone), byte (3; NONE for a match)");
        for (int value : new int[] {0, 1, 127, 128, 255}) {
            Counted x = new Counted();
            x.fill(value, 4);
            Due.due("parse(1)", x.parse(1), 2);
            Due.dueStep(x, 0, 0, 1, 0, value);
            Due.dueStep(x, 1, 1, 3, 1, -1);
        }
        // the longest and the farthest
        Counted x = new Counted();
        x.fill(0, 256);
        x.limits(2, 255, 500);
        x.parse(0);
        Due.dueStep(x, 1, 1, 255, 1, -1);
        x = Due.withText(Texts.oneMatch(2, 498));
        x.limits(2, 255, 500);
        Due.due("parse(1)", x.parse(1), 499);
        Due.dueStep(x, 498, 498, 2, 498, -1);
    }

    private static void fiveHundred() {
        Due.sentence("Of step i of the latest parse its place");
        Counted x = Due.withText(Texts.apart(500));
        x.limits(2, 255, 500);
        Due.due("parse(2)", x.parse(2), 500);
        String text = Texts.apart(500);
        for (int i : new int[] {0, 1, 254, 255, 256, 257, 498, 499}) {
            Due.dueStep(x, i, i, 1, 0, text.charAt(i));
        }
        dueNone(x, 500);
    }

    private static void ofTheLatestParse() {
        Due.sentence("Of step i of the latest parse");
        Counted x = Due.withText("abcdefgh");
        x.parse(0);
        x.clear();
        Due.typeAll(x, "zz");
        Due.dueStep(x, 7, 7, 1, 0, 'h');
        x.parse(0);
        Due.dueStep(x, 1, 1, 1, 0, 'z');
        // the parse before had such steps
        dueNone(x, 2);
        dueNone(x, 7);
        x.clear();
        x.parse(0);
        dueNone(x, 0);
    }

    private static void askingDoesNothing() {
        Due.sentence("NONE when there is none such");
        Twins.nothingDone("step(-1, 0)", -1, x -> x.step(-1, 0));
        Twins.nothingDone("step(0, 4)", -1, x -> x.step(0, 4));
        Twins.nothingDone("step(500, 1)", -1, x -> x.step(500, 1));
    }
}
