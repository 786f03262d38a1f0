/** Promise 6, at its boundaries, and those of the groups and classes that have a price. */
public final class Promise06PriceEdgesTest {
    private static final int[] COUNT = {8, 1, 8, 9};
    private static final int[] BAD_V = {0, -1, -1000, 1001, 1002, 65536 + 8,
        Integer.MIN_VALUE, Integer.MAX_VALUE};

    private Promise06PriceEdgesTest() {
    }

    public static void main(String[] args) {
        taken();
        noneSuch();
        noSuchPrice();
        allStayAfterRefused();
        groupsOfBytes();
        classesOfLengths();
        classesOfDistances();
        leastAndMostTogether();
        noOtherTextOrLimits();
        Due.end();
    }

    private static void taken() {
        Due.sentence("A price: .. 1");
        for (int what = 0; what < 4; what++) {
            for (int k = 0; k < COUNT[what]; k++) {
                Counted x = new Counted();
                for (int v : new int[] {1, 2, 8, 255, 256, 999, 1000}) {
                    Due.due("price(" + what + ", " + k + ", " + v + ")", x.price(what, k, v), 1);
                }
            }
        }
    }

    private static void refused(int what, int k, int v) {
        Twins.nothingDone("price(" + what + ", " + k + ", " + v + ")", 0,
            x -> x.price(what, k, v));
    }

    private static void noneSuch() {
        Due.sentence("0, and nothing is done, when there is none such");
        for (int what = 0; what < 4; what++) {
            for (int k : new int[] {-1, COUNT[what], COUNT[what] + 1, 256, Integer.MIN_VALUE,
                Integer.MAX_VALUE}) {
                refused(what, k, 1);
                refused(what, k, 1000);
            }
        }
        for (int what : new int[] {-1, -2, 4, 5, 256, Integer.MIN_VALUE, Integer.MAX_VALUE}) {
            for (int k : new int[] {-1, 0, 1, 7, 8, 9}) {
                refused(what, k, 9);
            }
        }
    }

    private static void noSuchPrice() {
        Due.sentence("0, and nothing is done, when .. it is not 1 .. 1000");
        for (int v : BAD_V) {
            refused(0, 3, v);
            refused(1, 0, v);
            refused(2, 2, v);
            refused(3, 3, v);
            refused(0, 8, v);
        }
    }

    /** Each price in turn is the one that a text shows. */
    private static void allStayAfterRefused() {
        Due.sentence("nothing is done");
        for (int k = 0; k < 8; k++) {
            Counted x = new Counted();
            x.fill(32 * k, 1);
            staysAfterRefused(x, 0, k, 0);
        }
        staysAfterRefused(withOneMatch(5, 9), 1, 0, 8 * 9 + 16);
        for (int k = 1; k < 8; k++) {
            staysAfterRefused(withOneMatch(1 << k, 1), 2, k, 8 + 16);
        }
        for (int k = 0; k < 9; k++) {
            staysAfterRefused(withOneMatch(4, 1 << k), 3, k, (8 << k) + 16);
        }
    }

    private static Counted withOneMatch(int length, int distance) {
        Counted x = Due.withText(Texts.oneMatch(length, distance));
        x.limits(2, 255, distance);
        return x;
    }

    private static void staysAfterRefused(Counted x, int what, int k, int rest) {
        for (int v : new int[] {1, 1000, 20}) {
            Due.due("price", x.price(what, k, v), 1);
            for (int bad : BAD_V) {
                Due.due("bad price", x.price(what, k, bad), 0);
            }
            for (int other = -1; other < 5; other++) {
                int count = other < 0 || other > 3 ? 0 : COUNT[other];
                Due.due("bad k", x.price(other, count, 77), 0);
                Due.due("bad k", x.price(other, count + 1, 77), 0);
                Due.due("bad k", x.price(other, -1, 77), 0);
            }
            x.parse(1);
            Due.due("price " + what + " " + k, x.told(2), rest + v);
        }
    }

    private static void groupsOfBytes() {
        Due.sentence("of a byte alone by its value / 32 (0 to 7)");
        Counted x = new Counted();
        for (int group = 0; group < 8; group++) {
            x.price(0, group, 100 + group);
        }
        for (int value = 0; value < 256; value += value % 32 == 31 ? 1 : value % 32 == 0 ? 15 : 16) {
            x.clear();
            x.fill(value, 1);
            Due.due("byte " + value, x.at(0, 3), 100 + value / 32);
            x.parse(value % 3);
            Due.due("told(2)", x.told(2), 100 + value / 32);
        }
        x.clear();
        x.fill(-1, 1);
        Due.due("the byte of -1", x.at(0, 3), 107);
    }

    private static void classesOfLengths() {
        Due.sentence("that of its length's class (0 to 7)");
        for (int length = 2; length <= 255; length++) {
            Counted x = new Counted();
            x.fill('a', length + 1);
            x.limits(2, 255, 1);
            for (int k = 0; k < 8; k++) {
                x.price(2, k, 100 + k);
            }
            x.parse(1);
            Due.due("length " + length, x.told(2), 8 + 8 + 8 + 100 + halvings(length));
        }
    }

    private static void classesOfDistances() {
        Due.sentence("that of its distance's (0 to 8)");
        for (int distance = 1; distance <= 498; distance++) {
            Counted x = Due.withText(Texts.oneMatch(2, distance));
            x.limits(2, 255, 500);
            for (int k = 0; k < 9; k++) {
                x.price(3, k, 100 + k);
            }
            x.parse(1);
            Due.due("distance " + distance, x.told(2),
                8 * distance + 8 + 8 + 100 + halvings(distance));
        }
    }

    private static int halvings(int number) {
        return Integer.toBinaryString(number).length() - 1;
    }

    private static void leastAndMostTogether() {
        Due.sentence("PRICES are 1 to 1000 .. together");
        for (int v : new int[] {1, 1000}) {
            Counted x = Due.withText("abcabc");
            for (int what = 0; what < 4; what++) {
                for (int k = 0; k < COUNT[what]; k++) {
                    Due.due("price", x.price(what, k, v), 1);
                }
            }
            x.parse(1);
            Due.due("three bytes and a match", x.told(2), 6 * v);
            // of three bytes the match is as cheap, of two it would be dearer
            Due.due("parse(0)", x.parse(0), 4);
            x.limits(2, 2, 500);
            Due.due("parse(0)", x.parse(0), 6);
        }
    }

    private static void noOtherTextOrLimits() {
        Due.sentence("A price");
        Counted priced = new Counted();
        Counted other = new Counted();
        Twins.busy(priced);
        Twins.busy(other);
        // 11 is the price of these bytes already, 8 the first one of the others
        Due.due("price", priced.price(0, 3, 500), 1);
        Due.due("price", priced.price(0, 3, 11), 1);
        Due.due("price", priced.price(3, 8, 8), 1);
        Twins.dueAlike("prices as they were", priced, other);
    }
}
