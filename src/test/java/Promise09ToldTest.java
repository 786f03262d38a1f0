/** Promise 9: what is told of the latest parse, by prices and limits as they were then. */
public final class Promise09ToldTest {
    private Promise09ToldTest() {
    }

    public static void main(String[] args) {
        Counted x = Due.withText("abcdabcd!");
        Due.dueTold(x, 0, 0, 0, 0, 0);
        noOthers(x);
        x.price(0, 1, 5);
        x.price(1, 0, 2);
        x.price(2, 2, 3);
        x.price(3, 2, 4);
        Due.due("parse(0)", x.parse(0), 6);
        int bits = 16 + 5 * 9 + 1 + 3 + 4 + 2;
        Due.dueTold(x, 6, 1, 4 * 8 + 2 + 3 + 4 + 5, bits, 9);
        noOthers(x);
        x.price(0, 3, 900);
        x.price(1, 0, 900);
        x.limits(4, 64, 500);
        x.type('q', 1);
        Due.dueTold(x, 6, 1, 46, bits, 9);
        x.at(0, 3);
        Due.dueTold(x, 6, 1, 46, bits, 9);
        Due.due("parse(4)", x.parse(4), -1);
        Due.dueTold(x, 6, 1, 46, bits, 9);
        Due.due("parse(1)", x.parse(1), 7);
        Due.dueTold(x, 7, 1, 4 * 900 + 900 + 7 + 5 + 900, 16 + 6 * 9 + 1 + 1 + 4 + 2, 10);
        bitsOfLengths();
        bitsOfDistances();
        dearest();
        Due.end();
    }

    private static void noOthers(Counted x) {
        for (int what : new int[] {-1, 5, 6, Integer.MIN_VALUE, Integer.MAX_VALUE}) {
            Due.due("told(" + what + ")", x.told(what), -1);
        }
    }

    private static void bitsOfLengths() {
        for (int least = 2; least <= 16; least++) {
            for (int length = least; length <= 255; length += length < 40 ? 1 : 43) {
                Counted x = new Counted();
                x.fill('x', length + 1);
                x.limits(least, 255, 1);
                Due.due("parse(1)", x.parse(1), 2);
                int told = Integer.toBinaryString(length - least + 1).length();
                Due.due("bits of length " + length, x.told(3), 16 + 9 + 1 + 2 * told - 1 + 4);
            }
        }
    }

    private static void bitsOfDistances() {
        for (int distance = 3; distance <= 497; distance++) {
            Counted x = Due.withText(Texts.oneMatch(3, distance));
            Due.due("parse(1)", x.parse(1), distance + 1);
            int below = Integer.toBinaryString(distance).length() - 1;
            Due.due("bits", x.told(3), 16 + 9 * distance + 1 + 1 + 4 + below);
        }
    }

    private static void dearest() {
        Counted x = new Counted();
        x.fill(200, 500);
        x.price(0, 6, 1000);
        x.price(1, 0, 1000);
        x.price(2, 1, 1000);
        x.limits(2, 2, 1);
        x.parse(0);
        Due.dueTold(x, 500, 0, 500000, 16 + 4500, 500);
        Due.due("at(0, 3)", x.at(0, 3), 500000);
    }
}
