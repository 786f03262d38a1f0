/** Promise 11, at its boundaries, and those of the bits that are written. */
public final class Promise11WriteEdgesTest {
    private Promise11WriteEdgesTest() {
    }

    public static void main(String[] args) {
        withoutAParse();
        noBytes();
        howManyBytesInSixteenBits();
        lastByteFilledWithZeros();
        everyLength();
        everyDistance();
        limitsAsTheyWereThen();
        writtenTwice();
        longest();
        Due.end();
    }

    private static void withoutAParse() {
        Due.sentence("0 without one");
        Twins.nothingDone(Twins::fresh, "write()", 0, Counted::write);
        Counted x = Due.withText("abc");
        Due.due("write()", x.write(), 0);
        Due.due("parse(3)", x.parse(3), -1);
        Due.due("write()", x.write(), 0);
        Due.due("written(0)", x.written(0), -1);
        x.parse(0);
        Due.due("write()", x.write(), 6);
    }

    private static void noBytes() {
        Due.sentence("how many bytes");
        for (int way = 0; way < 3; way++) {
            Counted x = new Counted();
            x.parse(way);
            Due.dueWritten(x, "00000000 00000000");
        }
    }

    private static void howManyBytesInSixteenBits() {
        Due.sentence("16 bits tell how many bytes the text has .. the highest bits come first");
        for (int size : new int[] {1, 127, 128, 255, 256, 257, 499, 500}) {
            Counted x = new Counted();
            x.fill(0, size);
            x.parse(1);
            x.write();
            Due.due("written(0)", x.written(0), size / 256);
            Due.due("written(1)", x.written(1), size % 256);
        }
    }

    private static void lastByteFilledWithZeros() {
        Due.sentence("the last byte is filled with 0");
        for (int size = 1; size <= 17; size++) {
            Counted x = new Counted();
            x.fill(255, size);
            x.price(1, 0, 1000);
            x.parse(0);
            StringBuilder bits = new StringBuilder(Due.bitsOf(size, 16));
            for (int k = 0; k < size; k++) {
                bits.append(Due.alone(255));
            }
            // eight bytes end with a byte, the others leave 8 - size % 8 bits
            Due.due("told(3)", x.told(3), 16 + 9 * size);
            Due.dueWritten(x, bits.toString());
        }
    }

    private static void everyLength() {
        Due.sentence("the length less least and one more, told as many 0 as its class"
            + " and then all of its bits from the highest 1 on");
        for (int least = 2; least <= 16; least += 7) {
            for (int length = least; length <= 255; length++) {
                Counted x = new Counted();
                x.fill(0x81, length + 1);
                x.limits(least, 255, 1);
                x.parse(2);
                String told = Integer.toBinaryString(length - least + 1);
                Due.dueWritten(x, Due.bitsOf(length + 1, 16) + Due.alone(0x81) + "1"
                    + "0".repeat(told.length() - 1) + told + "0000");
            }
        }
    }

    private static void everyDistance() {
        Due.sentence("the distance: its class in 4 bits, then its bits below the highest 1");
        for (int distance = 1; distance <= 498; distance++) {
            Counted x = Due.withText(Texts.oneMatch(2, distance));
            x.limits(2, 255, 500);
            x.parse(1);
            String told = Integer.toBinaryString(distance);
            StringBuilder bits = new StringBuilder(Due.bitsOf(distance + 2, 16));
            for (char value : Texts.apart(distance).toCharArray()) {
                bits.append(Due.alone(value));
            }
            bits.append("11").append(Due.bitsOf(told.length() - 1, 4)).append(told, 1,
                told.length());
            dueLastWritten(x, bits.toString().replace(" ", ""));
        }
    }

    /** The last bytes alone, as a whole text has more than an object has calls. */
    private static void dueLastWritten(Counted x, String bits) {
        int size = (bits.length() + 7) / 8;
        String all = bits + "0".repeat(8 * size - bits.length());
        Due.due("write()", x.write(), size);
        for (int k = Math.max(0, size - 4); k < size; k++) {
            int value = Integer.parseInt(all.substring(8 * k, 8 * k + 8), 2);
            Due.due("written(" + k + ")", x.written(k), value);
        }
        Due.due("written(" + size + ")", x.written(size), -1);
    }

    private static void limitsAsTheyWereThen() {
        Due.sentence("Writes the latest parse, by the limits as they were then");
        Counted x = Due.withText("abcdeabcde");
        x.limits(2, 5, 5);
        x.parse(1);
        String bits = Due.bitsOf(10, 16) + Due.alone('a') + Due.alone('b') + Due.alone('c')
            + Due.alone('d') + Due.alone('e') + "1 00100 0010 01";
        for (int least = 2; least <= 16; least++) {
            x.limits(least, 16, 1);
            Due.dueWritten(x, bits);
        }
        x.clear();
        Due.dueWritten(x, bits);
        Due.due("parse refused", x.parse(-1), -1);
        Due.dueWritten(x, bits);
        x.limits(5, 5, 5);
        Due.typeAll(x, "abcdeabcde");
        Due.dueWritten(x, bits);
        x.parse(1);
        Due.dueWritten(x, bits.substring(0, bits.indexOf("1 00100")) + "1 1 0010 01");
    }

    private static void writtenTwice() {
        Due.sentence("Writes the latest parse");
        Counted once = new Counted();
        Counted twice = new Counted();
        Twins.busy(once);
        Twins.busy(twice);
        int size = once.write();
        Due.due("write()", twice.write(), size);
        Due.due("write() again", twice.write(), size);
        Twins.dueAlike("write() again", twice, once);
    }

    private static void longest() {
        Due.sentence("how many bytes");
        String text = Texts.apart(500);
        Counted x = Due.withText(text);
        x.limits(2, 255, 500);
        x.parse(0);
        StringBuilder bits = new StringBuilder(Due.bitsOf(500, 16));
        for (char value : text.toCharArray()) {
            bits.append(Due.alone(value));
        }
        dueLastWritten(x, bits.toString().replace(" ", ""));
        Due.due("written(564)", x.written(564) >= 0 ? 1 : 0, 1);
        Due.due("written(565)", x.written(565), -1);
    }
}
