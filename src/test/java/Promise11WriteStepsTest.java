import java.util.Random;

/**
 * Promise 11, the word WRITTEN from its first bit to its last: every byte alone, and whole parses
 * of all three ways, put into bits here from what step() tells of them.
 */
public final class Promise11WriteStepsTest {
    private static final int RUNS = 300;

    private Promise11WriteStepsTest() {
    }

    public static void main(String[] args) {
        everyByteAlone();
        eachStepInTurn();
        theDearestMatches();
        Due.end();
    }

    private static void everyByteAlone() {
        Due.sentence("then each step: 0 and the byte's 8 bits .. in bytes too");
        for (int value = 0; value < 256; value++) {
            Counted x = new Counted();
            x.fill(value, 2);
            x.parse(value % 3);
            Due.dueWritten(x, Due.bitsOf(2, 16) + Due.alone(value) + Due.alone(value));
        }
    }

    private static void eachStepInTurn() {
        Due.sentence("16 bits tell how many bytes the text has, then each step");
        Random any = new Random(3);
        for (int run = 0; run < RUNS; run++) {
            int letters = 1 + any.nextInt(5);
            StringBuilder text = new StringBuilder();
            for (int size = any.nextInt(60); size > 0; size--) {
                text.append((char) (61 * any.nextInt(letters)));
            }
            Counted x = Due.withText(text.toString());
            int least = 2 + any.nextInt(4);
            x.limits(least, least + any.nextInt(250), 1 + any.nextInt(500));
            x.price(1, 0, 1 + any.nextInt(20));
            x.parse(run % 3);
            String bits = bitsOfSteps(x, least);
            Due.due("told(3)", x.told(3), bits.length());
            Due.dueWritten(x, bits);
        }
    }

    /** No match takes more bits than the bytes that it stands for, alone, would take. */
    private static void theDearestMatches() {
        Due.sentence("the distance: its class in 4 bits, then its bits below the highest 1");
        // all pairs of the second half stand in the first, in another order, and far
        StringBuilder text = new StringBuilder();
        for (int k = 0; k < 244; k++) {
            text.append((char) k);
        }
        for (int k = 0; k < 122; k++) {
            int pair = 2 * (k * 5 % 122);
            text.append((char) pair).append((char) (pair + 1));
        }
        Counted x = Due.withText(text.toString());
        x.limits(2, 2, 500);
        Due.due("parse(1)", x.parse(1), 244 + 122);
        Due.due("told(1)", x.told(1), 122);
        int bits = 16 + 9 * 244;
        for (int k = 0; k < 122; k++) {
            int distance = 244 + 2 * k - 2 * (k * 5 % 122);
            bits += 1 + 1 + 4 + Integer.toBinaryString(distance).length() - 1;
        }
        Due.due("told(3)", x.told(3), bits);
        Due.due("write()", x.write(), (bits + 7) / 8);
        Due.due("written behind", x.written((bits + 7) / 8), -1);
    }

    private static String bitsOfSteps(Counted x, int least) {
        StringBuilder bits = new StringBuilder(Due.bitsOf(x.told(4), 16));
        int steps = x.told(0);
        for (int i = 0; i < steps; i++) {
            int distance = x.step(i, 2);
            if (distance == 0) {
                bits.append('0').append(Due.bitsOf(x.step(i, 3), 8));
                continue;
            }
            String length = Integer.toBinaryString(x.step(i, 1) - least + 1);
            String far = Integer.toBinaryString(distance);
            bits.append('1').append("0".repeat(length.length() - 1)).append(length);
            bits.append(Due.bitsOf(far.length() - 1, 4)).append(far.substring(1));
        }
        return bits.toString();
    }
}
