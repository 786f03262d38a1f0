/** Promise 15, at its boundaries. */
public final class Promise15TakenEdgesTest {
    private Promise15TakenEdgesTest() {
    }

    public static void main(String[] args) {
        nothingRead();
        noBytes();
        firstAndLast();
        everyByte();
        fiveHundred();
        shorterAfterLonger();
        readLatest();
        askingDoesNothing();
        Due.end();
    }

    private static void dueNoneBut(Counted x, int size) {
        for (int k : new int[] {Integer.MIN_VALUE, -256, -2, size, size + 1, 500, 501, 65536,
            Integer.MAX_VALUE}) {
            Due.due("taken(" + k + ") of " + size, x.taken(k), -1);
        }
    }

    private static String written(String text) {
        StringBuilder bits = new StringBuilder(Due.bitsOf(text.length(), 16));
        for (char value : text.toCharArray()) {
            bits.append(Due.alone(value));
        }
        return bits.toString();
    }

    private static void nothingRead() {
        Due.sentence("NONE when there is none");
        Counted x = Due.withText("abc");
        Due.due("taken(NONE)", x.taken(-1), -1);
        dueNoneBut(x, 0);
        x.parse(0);
        x.write();
        x.load(0L, 1);
        Due.due("bytes that are only loaded", x.taken(-1), -1);
        Due.due("read()", x.read(), 1);
        Due.due("after a fault", x.taken(-1), -1);
        dueNoneBut(x, 0);
    }

    private static void noBytes() {
        Due.sentence("How many bytes the text has that was read latest (k NONE)");
        Counted x = new Counted();
        Due.dueRead(x, written(""), 0);
        Due.due("taken(NONE)", x.taken(-1), 0);
        dueNoneBut(x, 0);
    }

    private static void firstAndLast() {
        Due.sentence("or byte k of it");
        for (int size = 1; size <= 17; size++) {
            Counted x = new Counted();
            String text = Texts.apart(size);
            Due.dueRead(x, written(text), 0);
            Due.dueTaken(x, text);
            dueNoneBut(x, size);
        }
    }

    private static void everyByte() {
        Due.sentence("or byte k of it");
        for (int value = 0; value < 256; value++) {
            Counted x = new Counted();
            Due.dueRead(x, written("" + (char) value), 0);
            Due.due("taken(0)", x.taken(0), value);
        }
    }

    private static void fiveHundred() {
        Due.sentence("How many bytes the text has that was read latest");
        for (int size : new int[] {499, 500}) {
            Counted x = new Counted();
            x.limits(16, 255, 500);
            // 255 and what is left of it, told as 240 and as 228 or 229
            String told = size == 500 ? "11100101" : "11100100";
            Due.dueRead(x, Due.bitsOf(size, 16) + Due.alone(7) + "1 0000000 11110000 0000"
                + "1 0000000" + told + "0000", 0);
            Due.due("taken(NONE)", x.taken(-1), size);
            Due.due("the first", x.taken(0), 7);
            Due.due("the last", x.taken(size - 1), 7);
            Due.due("behind it", x.taken(size), -1);
            dueNoneBut(x, size);
        }
    }

    private static void shorterAfterLonger() {
        Due.sentence("the text .. that was read latest");
        Counted x = new Counted();
        Due.dueRead(x, written("abcdefgh"), 0);
        Due.dueRead(x, written("xy"), 0);
        Due.dueTaken(x, "xy");
        for (int k = 2; k < 9; k++) {
            Due.due("taken(" + k + ")", x.taken(k), -1);
        }
        Due.dueRead(x, written(""), 0);
        Due.dueTaken(x, "");
        Due.due("taken(1)", x.taken(1), -1);
    }

    private static void readLatest() {
        Due.sentence("the text .. that was read latest");
        Counted x = new Counted();
        Due.dueRead(x, written("pq"), 0);
        Due.typeAll(x, "other text");
        x.parse(0);
        x.write();
        x.limits(16, 16, 1);
        Due.loadBits(x, written("rst"));
        Due.dueTaken(x, "pq");
        x.clear();
        Due.due("check()", x.check(), 1);
        Due.dueTaken(x, "pq");
        Due.due("read()", x.read(), 0);
        Due.dueTaken(x, "rst");
    }

    private static void askingDoesNothing() {
        Due.sentence("NONE when there is none");
        Twins.nothingDone("taken(-2)", -1, x -> x.taken(-2));
        Twins.nothingDone("taken(500)", -1, x -> x.taken(500));
    }
}
