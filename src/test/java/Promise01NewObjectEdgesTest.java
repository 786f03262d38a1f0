/** Promise 1, at its boundaries: what a new object has not, and what the terms say is at first. */
public final class Promise01NewObjectEdgesTest {
    private Promise01NewObjectEdgesTest() {
    }

    public static void main(String[] args) {
        noBytes();
        noParse();
        nothingLoadedOrRead();
        firstLeast();
        firstMost();
        firstWindow();
        firstPrices();
        upToThe512thCall();
        Due.end();
    }

    private static void noBytes() {
        Due.sentence("No bytes");
        Counted x = new Counted();
        Due.due("clear()", x.clear(), 0);
        Due.due("at(0, 3), the end", x.at(0, 3), 0);
        Due.due("at(1, 3), behind it", x.at(1, 3), -1);
        for (int what = 0; what < 3; what++) {
            Due.due("at(0, " + what + ")", x.at(0, what), -1);
        }
        Due.due("501 bytes do not fit", x.fill('a', 501), -1);
        Due.due("500 bytes do", x.fill('a', 500), 500);
        Due.due("the first byte is the only one", new Counted().type('a', 1), 1);
    }

    private static void noParse() {
        Due.sentence("no parse");
        Counted x = new Counted();
        Due.dueTold(x, 0, 0, 0, 0, 0);
        Due.dueStep(x, 0, -1, -1, -1, -1);
        Due.due("write()", x.write(), 0);
        Due.due("written(0)", x.written(0), -1);
        // a parse of no bytes is a parse
        Due.due("parse(0)", x.parse(0), 0);
        Due.dueTold(x, 0, 0, 0, 16, 0);
        Due.dueStep(x, 0, -1, -1, -1, -1);
        Due.due("write()", x.write(), 2);
        Due.due("written(0)", x.written(0), 0);
        // bytes alone are none
        x = Due.withText("abc");
        Due.dueTold(x, 0, 0, 0, 0, 0);
        Due.dueStep(x, 0, -1, -1, -1, -1);
        Due.due("write()", x.write(), 0);
    }

    private static void nothingLoadedOrRead() {
        Due.sentence("a new object has read nothing");
        Counted x = new Counted();
        Due.due("taken(NONE)", x.taken(-1), -1);
        Due.due("taken(0)", x.taken(0), -1);
        Due.due("read()", x.read(), 1);
        Due.due("taken(NONE)", x.taken(-1), -1);
        Due.due("load", x.load(0L, 2), 2);
        Due.due("read()", x.read(), 0);
        Due.due("taken(NONE)", x.taken(-1), 0);
    }

    private static void firstLeast() {
        Due.sentence("At first least is 3");
        Counted x = Due.withText(Texts.oneMatch(3, 9));
        Due.due("3 the same", x.at(9, 0), 3);
        x = Due.withText(Texts.oneMatch(2, 9));
        Due.due("2 the same", x.at(9, 0), 0);
    }

    private static void firstMost() {
        Due.sentence("most 64");
        for (int length = 63; length <= 66; length++) {
            Counted x = Due.withText(Texts.oneMatch(length, 70));
            Due.due(length + " the same", x.at(70, 0), Math.min(64, length));
        }
    }

    private static void firstWindow() {
        Due.sentence("window 500");
        Counted x = Due.withText(Texts.oneMatch(3, 497));
        Due.due("the farthest of a text", x.at(497, 1), 497);
        x = new Counted();
        x.fill('a', 500);
        Due.due("no distance is too far", x.at(497, 2), 497);
    }

    private static void firstPrices() {
        Due.sentence("PRICES are 1 to 1000, all 8 at first");
        for (int value = 0; value < 256; value++) {
            Counted x = new Counted();
            x.fill(value, 1);
            Due.due("byte " + value, x.at(0, 3), 8);
        }
        for (int length = 2; length <= 255; length++) {
            oneMatchIs24(length, 1);
        }
        for (int distance = 1; distance <= 480; distance += distance < 40 ? 1 : 11) {
            oneMatchIs24(16, distance);
        }
    }

    private static void oneMatchIs24(int length, int distance) {
        Counted x = Due.withText(Texts.oneMatch(length, distance));
        x.limits(2, length, distance);
        x.parse(1);
        Due.due("length " + length + ", distance " + distance, x.told(2), 8 * distance + 24);
    }

    private static void upToThe512thCall() {
        Due.sentence("An object is used for at most 512 calls");
        String last = "type fill clear limits price parse step told at write written load read "
            + "taken check";
        for (String call : last.split(" ")) {
            Counted x = used511Times();
            Due.due("calls", x.calls(), 511);
            Due.due(call + " as the 512th", ask(x, call), dueAsTheLast(call));
        }
    }

    private static Counted used511Times() {
        Counted x = new Counted();
        for (int k = 0; k < 85; k++) {
            x.clear();
            x.fill('a', 500);
            x.parse(k % 3);
            x.load(0L, 2);
            x.read();
            x.write();
        }
        x.load(1L, 1);
        return x;
    }

    private static int ask(Counted x, String call) {
        switch (call) {
            case "type":
                return x.type(1L, 1);
            case "fill":
                return x.fill(1, 1);
            case "clear":
                return x.clear();
            case "limits":
                return x.limits(16, 255, 500);
            case "price":
                return x.price(3, 8, 1000);
            case "parse":
                return x.parse(2);
            case "step":
                return x.step(1, 1);
            case "told":
                return x.told(4);
            case "at":
                return x.at(436, 0);
            case "write":
                return x.write();
            case "written":
                return x.written(1);
            case "load":
                return x.load(1L, 8);
            case "read":
                return x.read();
            case "taken":
                return x.taken(-1);
            default:
                return x.check();
        }
    }

    private static int dueAsTheLast(String call) {
        switch (call) {
            case "type":
            case "fill":
                return -1;
            case "clear":
            case "told":
                return 500;
            case "parse":
                return 9;
            case "step":
            case "at":
                return 64;
            case "write":
                // 16 and 9 bits, 7 times 1, 11 and 4, and for the last 51 bytes the same
                return (16 + 9 + 8 * 16 + 7) / 8;
            case "written":
                return 500 & 255;
            case "load":
                return 9;
            case "taken":
                return 0;
            default:
                return 1;
        }
    }
}
