/** Promise 11: the latest parse in bits. */
public final class Promise11WriteTest {
    private Promise11WriteTest() {
    }

    public static void main(String[] args) {
        Counted x = Due.withText("abcabcabca");
        Due.due("write() without a parse", x.write(), 0);
        Due.due("written(0)", x.written(0), -1);
        x.parse(0);
        // the match of length 7 is told as 5, class 2; the distance 3 as class 1 and 1
        String bits = Due.bitsOf(10, 16) + Due.alone('a') + Due.alone('b') + Due.alone('c')
            + "1 00101 0001 1";
        Due.dueWritten(x, bits);
        byLimitsAsTheyWereThen(x, bits);
        lengths();
        distances();
        longest();
        shorterAfterLonger();
        Due.end();
    }

    private static void byLimitsAsTheyWereThen(Counted x, String bits) {
        x.limits(7, 7, 500);
        x.clear();
        Due.dueWritten(x, bits);
        x.fill(0, 1);
        x.price(0, 0, 3);
        Due.due("parse(9)", x.parse(9), -1);
        Due.dueWritten(x, bits);
        x.parse(2);
        Due.dueWritten(x, Due.bitsOf(1, 16) + Due.alone(0));
    }

    private static void lengths() {
        lengthWritten(2, 2, "1");
        lengthWritten(2, 3, "010");
        lengthWritten(2, 4, "011");
        lengthWritten(2, 5, "00100");
        lengthWritten(2, 255, "0000000 11111110");
        lengthWritten(3, 255, "0000000 11111101");
        lengthWritten(16, 16, "1");
        lengthWritten(16, 143, "0000000 10000000");
        lengthWritten(16, 142, "000000 1111111");
        lengthWritten(16, 255, "0000000 11110000");
    }

    private static void lengthWritten(int least, int length, String told) {
        Counted x = new Counted();
        x.fill(0x81, length + 1);
        x.limits(least, 255, 500);
        x.parse(1);
        Due.dueWritten(x, Due.bitsOf(length + 1, 16) + Due.alone(0x81) + "1" + told + "0000");
    }

    private static void distances() {
        distanceWritten(3, "0001 1");
        distanceWritten(4, "0010 00");
        distanceWritten(6, "0010 10");
        distanceWritten(7, "0010 11");
        distanceWritten(128, "0111 0000000");
        distanceWritten(200, "0111 1001000");
        distanceWritten(255, "0111 1111111");
        distanceWritten(256, "1000 00000000");
        distanceWritten(470, "1000 11010110");
    }

    private static void distanceWritten(int distance, String told) {
        StringBuilder bits = new StringBuilder(Due.bitsOf(distance + 3, 16));
        for (char value : Texts.apart(distance).toCharArray()) {
            bits.append(Due.alone(value));
        }
        Counted x = Due.withText(Texts.oneMatch(3, distance));
        x.parse(2);
        // the bytes are looked at by the last ones alone, to stay within 512 calls
        String whole = bits.append("1 1").append(told).toString().replace(" ", "");
        int size = (whole.length() + 7) / 8;
        Due.due("write()", x.write(), size);
        for (int k = Math.max(0, size - 8); k < size; k++) {
            String part = whole.substring(8 * k, Math.min(whole.length(), 8 * k + 8));
            int value = Integer.parseInt(part, 2) << (8 - part.length());
            Due.due("written(" + k + ")", x.written(k), value);
        }
    }

    private static void longest() {
        Counted x = new Counted();
        x.fill(255, 500);
        x.limits(16, 16, 1);
        x.price(1, 0, 1000);
        x.parse(0);
        Due.due("told(3)", x.told(3), 4516);
        Due.due("write()", x.write(), 565);
        Due.due("written(0)", x.written(0), 1);
        Due.due("written(1)", x.written(1), 0xf4);
        Due.due("written(2)", x.written(2), 0x7f);
        Due.due("written(564)", x.written(564), 0xf0);
        Due.due("written(565)", x.written(565), -1);
    }

    private static void shorterAfterLonger() {
        Counted x = new Counted();
        x.fill(255, 20);
        x.price(1, 0, 1000);
        x.parse(0);
        x.write();
        x.clear();
        x.fill(0x55, 1);
        x.parse(0);
        Due.dueWritten(x, Due.bitsOf(1, 16) + Due.alone(0x55));
    }
}
