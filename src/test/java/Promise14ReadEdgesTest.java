/** Promise 14, at its boundaries: each fault, and what is just no fault. */
public final class Promise14ReadEdgesTest {
    private static final String A = Due.alone('a');

    private Promise14ReadEdgesTest() {
    }

    public static void main(String[] args) {
        noBytesLoaded();
        everyBitMissing();
        moreThan500();
        lengthOverMost();
        nineZeros();
        lengthBeyondTheEnd();
        distanceOverWindow();
        distanceBeforeTheBeginning();
        bitsBehind();
        bytesBehind();
        theFirstOneMet();
        byTheLimitsToldThen();
        noneAreLoadedThen();
        faultsLeaveAllAsItWas();
        aTextThatIsReadChangesNoOther();
        Due.end();
    }

    private static String size(int n) {
        return Due.bitsOf(n, 16) + " ";
    }

    private static void load(Counted x, String bits) {
        StringBuilder all = new StringBuilder(bits.replace(" ", ""));
        while (all.length() % 8 != 0) {
            all.append('0');
        }
        for (int k = 0; k < all.length(); k += 64) {
            String part = all.substring(k, Math.min(all.length(), k + 64));
            Due.due("load", x.load(Long.parseUnsignedLong(part, 2), part.length() / 8),
                (k + part.length()) / 8);
        }
    }

    private static Counted dueRead(int[] limits, String bits, int fault) {
        Counted x = new Counted();
        Due.due("limits", x.limits(limits[0], limits[1], limits[2]), 1);
        load(x, bits);
        Due.due("read of " + bits, x.read(), fault);
        if (fault != 0) {
            Due.due("taken(NONE)", x.taken(-1), -1);
        }
        return x;
    }

    private static Counted dueRead(String bits, int fault) {
        return dueRead(new int[] {3, 64, 500}, bits, fault);
    }

    private static void noBytesLoaded() {
        Due.sentence("1 the bytes end");
        Due.due("read() of nothing", new Counted().read(), 1);
        for (int value : new int[] {0, 1, 2, 255}) {
            dueRead(Due.bitsOf(value, 8), 1);
        }
        dueRead(size(0), 0);
        dueRead(size(1), 1);
        dueRead(size(500), 1);
    }

    /** Bytes alone stand before the last step, as many as let a byte end at each of its bits. */
    private static void everyBitMissing() {
        Due.sentence("1 the bytes end");
        cutEverywhere(A, 1, 0);
        cutEverywhere("1 1 0000", 3, 1);
        cutEverywhere("1 1 0001 1", 3, 3);
        cutEverywhere("1 1 0011 111", 3, 15);
        cutEverywhere("1 010 0000", 4, 1);
        cutEverywhere("1 00000 111110 0000", 64, 1);
        cutEverywhere("1 00101 1000 00000000", 7, 256);
        cutEverywhere("1 00111 1000 11010110", 9, 470);
    }

    private static void cutEverywhere(String step, int length, int bytesBefore) {
        String bits = step.replace(" ", "");
        for (int cut = 0; cut <= bits.length(); cut++) {
            int before = bytesBefore;
            while ((16 + 9 * before + cut) % 8 != 0) {
                before++;
            }
            String whole = size(before + length) + A.repeat(before) + bits.substring(0, cut);
            Counted x = dueRead(whole, cut < bits.length() ? 1 : 0);
            Due.due("taken(NONE)", x.taken(-1), cut < bits.length() ? -1 : before + length);
        }
    }

    private static void moreThan500() {
        Due.sentence("2 it would have more than 500 bytes (all that is told)");
        dueRead(size(500) + A.repeat(500), 0);
        dueRead(size(499) + A.repeat(499), 0);
        dueRead(size(501), 2);
        dueRead(size(501) + A.repeat(501), 2);
        for (int n : new int[] {501, 502, 512, 756, 1000, 32767, 32768, 65535}) {
            dueRead(size(n), 2);
            dueRead(size(n) + A, 2);
            dueRead(size(n) + "1 000000000", 2);
        }
    }

    private static String lengthTold(int length, int least) {
        String told = Integer.toBinaryString(length - least + 1);
        return "0".repeat(told.length() - 1) + told;
    }

    private static void lengthOverMost() {
        Due.sentence("3 a length over most");
        int[][] limits = {{2, 2, 1}, {2, 3, 1}, {3, 64, 1}, {16, 16, 1}, {16, 17, 1}, {2, 254, 1},
            {2, 255, 1}, {16, 255, 1}};
        for (int[] l : limits) {
            for (int length = l[0]; length <= l[1] + 2; length++) {
                String match = "1" + lengthTold(length, l[0]) + "0000";
                boolean fine = length <= l[1];
                Counted x = dueRead(l, size(1 + length) + A + match, fine ? 0 : 3);
                Due.due("taken(NONE)", x.taken(-1), fine ? 1 + length : -1);
            }
        }
    }

    private static void nineZeros() {
        Due.sentence("or nine 0, which are a class over 8");
        int[] widest = {16, 255, 500};
        // seven 0 can be a length, eight are none that most lets be, but are told whole
        dueRead(widest, size(144) + A + "1 0000000 10000000 0000", 0);
        dueRead(widest, size(500) + A + "1 00000000 100000000 0000", 3);
        dueRead(widest, size(500) + A + "1 00000000 100000000", 3);
        // the bytes end in the middle of it, and just behind eight 0
        dueRead(widest, size(500) + A + "1 00000000 10000", 1);
        dueRead(widest, size(500) + A.repeat(7) + "1 00000000", 1);
        // nine are known as soon as they are met
        dueRead(widest, size(500) + A.repeat(6) + "1 000000000", 3);
        dueRead(widest, size(500) + A + "1 000000000 1111", 3);
        dueRead(widest, size(500) + A + "1 " + "0".repeat(60), 3);
    }

    private static void lengthBeyondTheEnd() {
        Due.sentence("3 a length .. beyond the text's end");
        for (int length = 3; length <= 64; length++) {
            String match = "1" + lengthTold(length, 3) + "0000";
            dueRead(size(length) + A + match, 3);
            dueRead(size(length + 1) + A + match, 0);
            dueRead(size(length + 2) + A + match + A, 0);
            dueRead(size(length + 2) + A + match + "1 1 0000", 3);
        }
        // a whole text leaves no room
        dueRead(new int[] {2, 255, 500}, size(3) + A + A + "1 1 0000", 3);
        dueRead(new int[] {2, 255, 500}, size(4) + A + A + "1 1 0000", 0);
    }

    private static String distanceTold(int distance) {
        String told = Integer.toBinaryString(distance);
        return Due.bitsOf(told.length() - 1, 4) + told.substring(1);
    }

    private static void distanceOverWindow() {
        Due.sentence("4 a distance over window");
        for (int window : new int[] {1, 2, 3, 4, 7, 8, 255, 256, 257, 400}) {
            int[] l = {2, 255, window};
            String before = size(window + 5) + A.repeat(window + 3) + "11";
            dueRead(l, before + distanceTold(window), 0);
            dueRead(l, before + distanceTold(window + 1), 4);
            dueRead(l, before + distanceTold(window + 2), 4);
        }
        // a class over 8 is over every window
        for (int k = 9; k < 16; k++) {
            String below = "0".repeat(k);
            dueRead(size(480) + A.repeat(470) + "11" + Due.bitsOf(k, 4) + below, 4);
            dueRead(size(480) + A.repeat(470) + "11" + Due.bitsOf(k, 4) + below + A, 4);
        }
    }

    private static void distanceBeforeTheBeginning() {
        Due.sentence("4 a distance .. before its beginning");
        dueRead(size(9) + "11 0000", 4);
        for (int before = 1; before <= 40; before++) {
            String bits = size(before + 3) + A.repeat(before) + "11";
            dueRead(bits + distanceTold(before), 0);
            dueRead(bits + distanceTold(before + 1), 4);
        }
        dueRead(size(500) + A.repeat(497) + "11" + distanceTold(497), 0);
        dueRead(size(500) + A.repeat(497) + "11" + distanceTold(498), 4);
        dueRead(size(500) + A.repeat(497) + "11" + distanceTold(500), 4);
        dueRead(size(500) + A.repeat(497) + "11" + distanceTold(501), 4);
    }

    private static void bitsBehind() {
        Due.sentence("5 .. bits that are not 0, behind");
        for (int n = 1; n <= 8; n++) {
            String text = size(n) + A.repeat(n);
            dueRead(text, 0);
            int left = (8 - n % 8) % 8;
            for (int k = 0; k < left; k++) {
                dueRead(text + "0".repeat(k) + "1" + "0".repeat(left - k - 1), 5);
            }
            dueRead(text + "0".repeat(left), 0);
            dueRead(text + "1".repeat(left), left == 0 ? 0 : 5);
        }
    }

    private static void bytesBehind() {
        Due.sentence("5 more bytes .. behind");
        for (int n = 0; n <= 8; n++) {
            String text = size(n) + A.repeat(n);
            String filled = text + "0".repeat((8 - n % 8) % 8);
            dueRead(filled, 0);
            dueRead(filled + "00000000", 5);
            dueRead(filled + "00000001", 5);
            dueRead(filled + "10000000", 5);
            dueRead(filled + "0".repeat(800), 5);
        }
    }

    private static void theFirstOneMet() {
        Due.sentence("FAULTS, the first one met");
        // 2 before what comes behind
        dueRead(size(501) + "1 000000000 1", 2);
        // 3 before 4 in one match, whether over most, beyond the end or nine 0
        dueRead(size(500) + "1" + lengthTold(65, 3) + "0000", 3);
        dueRead(size(2) + "1 1 0000", 3);
        dueRead(size(500) + "1 000000000", 3);
        // 3 before 1 in one match: the distance is missing
        dueRead(size(2) + A + "1 1 0000", 3);
        dueRead(size(2) + A.repeat(6) + "1 1", 5);
        dueRead(size(7) + A.repeat(6) + "1 1", 3);
        dueRead(size(9) + A.repeat(6) + "1 1", 1);
        // 4 of the first match before 3 of the second
        dueRead(size(20) + "1 1 0000 1 000000000", 4);
        dueRead(size(20) + A + "1 1 0000 1 000000000", 3);
        // 1 before 4: the distance is not told whole
        dueRead(size(20) + A.repeat(4) + "1 1 1000", 1);
        dueRead(size(20) + A.repeat(4) + "1 1 1111", 1);
        // 4 before 5
        dueRead(size(3) + "1 1 0000 1111", 4);
        // 1 is no fault once the text is whole, 5 is
        dueRead(size(1) + A + "1", 5);
    }

    private static void byTheLimitsToldThen() {
        Due.sentence("READ by the limits that are told then");
        Counted x = new Counted();
        for (int least = 2; least <= 16; least++) {
            load(x, size(1 + least) + A + "1 1 0000");
            Due.due("limits", x.limits(least, least, 1), 1);
            Due.due("limits refused", x.limits(least, least - 1, 1), 0);
            Due.due("read()", x.read(), 0);
            Due.due("taken(NONE)", x.taken(-1), 1 + least);
            load(x, size(2 + least) + A + "1 010 0000");
            Due.due("read()", x.read(), 3);
        }
        x.limits(16, 17, 1);
        load(x, size(20) + A + A + A + "1 010 0001 0");
        Due.due("over the window of 1", x.read(), 4);
        x.limits(16, 17, 2);
        load(x, size(20) + A + A + A + "1 010 0001 0");
        Due.due("within that of 2", x.read(), 0);
        // a parse does not bind them to its own
        x.fill('q', 30);
        x.parse(1);
        x.limits(2, 17, 2);
        load(x, size(3) + A + "1 1 0000");
        Due.due("read()", x.read(), 0);
        Due.dueTaken(x, "aaa");
    }

    private static String[] faults() {
        return new String[] {size(0), size(7) + A, size(501), size(3) + A + "1 000000000",
            size(9) + "1 1 0000", size(1) + A + "1"};
    }

    private static void noneAreLoadedThen() {
        Due.sentence("the loaded bytes, which are none then");
        for (int fault = 0; fault <= 5; fault++) {
            Counted x = new Counted();
            load(x, faults()[fault]);
            Due.due("read()", x.read(), fault);
            Due.due("read() again", x.read(), 1);
            Due.due("load", x.load(0L, 1), 1);
            Due.due("load", x.load(0L, 1), 2);
            Due.due("read()", x.read(), 0);
        }
    }

    /** Busy, with no bytes loaded any more. */
    private static void settled(Counted x) {
        Twins.busy(x);
        Due.due("load", x.load(128L, 1), 4);
        Due.due("read()", x.read(), 0);
    }

    private static void faultsLeaveAllAsItWas() {
        Due.sentence("or the fault, and that stays");
        for (int fault = 1; fault <= 5; fault++) {
            Counted asked = new Counted();
            Counted other = new Counted();
            settled(asked);
            settled(other);
            load(asked, faults()[fault]);
            Due.due("read()", asked.read(), fault);
            Twins.dueAlike("fault " + fault, asked, other);
        }
        // what was read before the fault was met is not taken
        Counted x = new Counted();
        load(x, size(2) + Due.alone('p') + Due.alone('q'));
        Due.due("read()", x.read(), 0);
        load(x, size(20) + A.repeat(5) + "1 1 0000 1 000000000");
        Due.due("read()", x.read(), 3);
        Due.dueTaken(x, "pq");
    }

    private static void aTextThatIsReadChangesNoOther() {
        Due.sentence("0, and this is the one that was read latest");
        Counted asked = new Counted();
        Counted other = new Counted();
        settled(asked);
        settled(other);
        load(asked, size(8) + A + Due.alone('b') + "1 011 0001 0 1 1 0000");
        Due.due("read()", asked.read(), 0);
        Due.dueTaken(asked, "abababbb");
        asked.load(0x00015280L, 4);
        Due.due("read() of the same text again", asked.read(), 0);
        Twins.dueAlike("a text read", asked, other);
    }
}
