import java.util.Random;

/**
 * Promise 14, the words "written in bits, and read again": what an object wrote another one reads,
 * by the same limits; and steps that no parse would choose are read too, as long as they are told
 * rightly.
 */
public final class Promise14ReadAgainTest {
    private static final int RUNS = 200;

    private Promise14ReadAgainTest() {
    }

    public static void main(String[] args) {
        writtenAndReadAgain();
        fiveHundred();
        stepsOfAnyKind();
        bitsOfAnyKind();
        Due.end();
    }

    private static String someText(Random any, int letters, int size) {
        StringBuilder text = new StringBuilder();
        for (int k = 0; k < size; k++) {
            text.append((char) (any.nextInt(letters) * 255 / Math.max(1, letters - 1)));
        }
        return text.toString();
    }

    private static void writtenAndReadAgain() {
        Due.sentence("written in bits, and read again");
        Random any = new Random(5);
        for (int run = 0; run < RUNS; run++) {
            String text = someText(any, 1 + any.nextInt(6), any.nextInt(300));
            int least = 2 + any.nextInt(15);
            int[] limits = {least, least + any.nextInt(256 - least), 1 + any.nextInt(500)};
            dueAgain(text, limits, run % 3);
        }
    }

    private static void fiveHundred() {
        Due.sentence("written in bits, and read again");
        Random any = new Random(55);
        for (int way = 0; way < 3; way++) {
            dueAgain(someText(any, 1, 500), new int[] {2, 255, 500}, way);
            dueAgain(someText(any, 2, 500), new int[] {2, 255, 500}, way);
            dueAgain(someText(any, 4, 500), new int[] {3, 64, 500}, way);
            dueAgain(someText(any, 9, 100).repeat(5), new int[] {16, 16, 500}, way);
            dueAgain(Texts.apart(300) + Texts.apart(200), new int[] {16, 255, 300}, way);
        }
    }

    private static void dueAgain(String text, int[] limits, int way) {
        Counted writer = Due.withText(text);
        writer.limits(limits[0], limits[1], limits[2]);
        writer.parse(way);
        int size = writer.write();
        Counted reader = new Counted();
        reader.limits(limits[0], limits[1], limits[2]);
        for (int k = 0; k < size; k += 8) {
            int n = Math.min(8, size - k);
            long bytes = 0;
            for (int i = 0; i < n; i++) {
                bytes = bytes << 8 | writer.written(k + i);
            }
            Due.due("load", reader.load(bytes, n), k + n);
        }
        Due.due("read()", reader.read(), 0);
        Due.due("taken(NONE)", reader.taken(-1), text.length());
        // from the end, as an object has not the calls to tell all of 500
        for (int k = text.length() - 1; k >= Math.max(0, text.length() - 400); k--) {
            Due.due("taken(" + k + ")", reader.taken(k), text.charAt(k));
        }
        Due.due("the reader has no parse", reader.told(3), 0);
        Due.due("the reader has no text", reader.clear(), 0);
    }

    /** Matches wherever the limits let one be, whether a parse would take them there or not. */
    private static void stepsOfAnyKind() {
        Due.sentence("READ by the limits that are told then");
        Random any = new Random(555);
        for (int run = 0; run < RUNS; run++) {
            int least = 2 + any.nextInt(15);
            int most = least + any.nextInt(30);
            int window = 1 + any.nextInt(40);
            StringBuilder text = new StringBuilder();
            StringBuilder bits = new StringBuilder();
            for (int i = any.nextInt(12); i > 0; i--) {
                if (text.length() == 0 || any.nextInt(3) == 0) {
                    int value = any.nextInt(256);
                    text.append((char) value);
                    bits.append(Due.alone(value));
                    continue;
                }
                int length = least + any.nextInt(most - least + 1);
                int distance = 1 + any.nextInt(Math.min(window, text.length()));
                for (int k = 0; k < length; k++) {
                    text.append(text.charAt(text.length() - distance));
                }
                bits.append(matchTold(length - least + 1, distance));
            }
            Counted x = new Counted();
            x.limits(least, most, window);
            Due.dueRead(x, Due.bitsOf(text.length(), 16) + bits, 0);
            Due.dueTaken(x, text.toString());
        }
    }

    private static String matchTold(int length, int distance) {
        String told = Integer.toBinaryString(length);
        String far = Integer.toBinaryString(distance);
        return "1" + "0".repeat(told.length() - 1) + told + Due.bitsOf(far.length() - 1, 4)
            + far.substring(1);
    }

    /** Bits thrown as they fall, by limits of all kinds: the model meets the same faults. */
    private static void bitsOfAnyKind() {
        Due.sentence("FAULTS, the first one met");
        Random any = new Random(5555);
        int[] met = new int[6];
        for (int run = 0; run < 30 * RUNS; run++) {
            Counted x = new Counted();
            Model model = new Model();
            int least = 2 + any.nextInt(3);
            int most = least + any.nextInt(any.nextBoolean() ? 4 : 250);
            int window = 1 + any.nextInt(any.nextBoolean() ? 5 : 500);
            Due.due("limits", x.limits(least, most, window), model.limits(least, most, window));
            int size = any.nextInt(8) == 0 ? any.nextInt(65536) : any.nextInt(24);
            Due.due("load", x.load(size, 2), model.load(size, 2));
            for (int k = any.nextInt(12); k > 0; k--) {
                long value = any.nextBoolean() ? any.nextLong() : any.nextLong() & any.nextLong();
                int n = 1 + any.nextInt(2);
                Due.due("load", x.load(value, n), model.load(value, n));
            }
            int fault = model.read();
            met[fault]++;
            Due.due("read() of run " + run, x.read(), fault);
            for (int k = -1; k < 24; k++) {
                Due.due("taken(" + k + ") of run " + run, x.taken(k), model.taken(k));
            }
        }
        for (int fault = 0; fault < met.length; fault++) {
            Due.due("some meet fault " + fault, met[fault] >= 10 ? 1 : 0, 1);
        }
    }
}
