/** Promise 6: prices of bytes, of all matches, of lengths and of distances. */
public final class Promise06PriceTest {
    private Promise06PriceTest() {
    }

    public static void main(String[] args) {
        refused();
        ofBytes();
        ofMatches();
        Due.end();
    }

    private static void refused() {
        Counted x = Due.withText("abcabcabcabc");
        int[] count = {8, 1, 8, 9};
        for (int what = 0; what < 4; what++) {
            for (int k = 0; k < count[what]; k++) {
                Due.due("price 1", x.price(what, k, 1), 1);
                Due.due("price 1000", x.price(what, k, 1000), 1);
                Due.due("price 5", x.price(what, k, 5), 1);
                Due.due("price 0", x.price(what, k, 0), 0);
                Due.due("price -1", x.price(what, k, -1), 0);
                Due.due("price 1001", x.price(what, k, 1001), 0);
                Due.due("price most int", x.price(what, k, Integer.MAX_VALUE), 0);
            }
            Due.due("k over", x.price(what, count[what], 9), 0);
            Due.due("k -1", x.price(what, -1, 9), 0);
            Due.due("k least int", x.price(what, Integer.MIN_VALUE, 9), 0);
        }
        Due.due("what 4", x.price(4, 0, 9), 0);
        Due.due("what -1", x.price(-1, 0, 9), 0);
        Due.due("all stay 5", x.at(0, 3), 3 * 5 + 15);
    }

    private static void ofBytes() {
        for (int group = 0; group < 8; group++) {
            for (int other = 0; other < 8; other++) {
                Counted x = new Counted();
                x.fill(32 * group, 1);
                x.fill(32 * group + 31, 1);
                x.price(0, other, 100 + other);
                Due.due("two bytes", x.at(0, 3), group == other ? 2 * (100 + other) : 16);
                x.parse(0);
                Due.due("told(2)", x.told(2), group == other ? 2 * (100 + other) : 16);
            }
        }
    }

    /** One match of each class's lowest and highest length or distance, and no other one. */
    private static void ofMatches() {
        for (int c = 1; c < 8; c++) {
            matchOf(1 << c, 1, 2, c);
            matchOf((2 << c) - 1, 1, 2, c);
        }
        for (int c = 0; c < 9; c++) {
            matchOf(20, 1 << c, 3, c);
            if (c < 8) {
                matchOf(20, (2 << c) - 1, 3, c);
            }
        }
        matchOf(20, 470, 3, 8);
        matchOf(5, 5, 1, 0);
    }

    private static void matchOf(int length, int distance, int what, int k) {
        Counted x = Due.withText(Texts.oneMatch(length, distance));
        x.limits(2, 255, distance);
        for (int group = 0; group < 8; group++) {
            x.price(0, group, 1000);
        }
        Due.due("one match", x.at(distance, 3), 24);
        Due.due("its length", x.at(distance, 0), length);
        Due.due("price", x.price(what, k, 20), 1);
        Due.due("price " + what + " " + k, x.at(distance, 3), 16 + 20);
        Due.due("parse(1)", x.parse(1), distance + 1);
        Due.dueStep(x, distance, distance, length, distance, -1);
        Due.due("told(2)", x.told(2), 1000 * distance + 16 + 20);
        int classes = what == 2 ? 8 : what == 3 ? 9 : 1;
        for (int other = 0; other < classes; other++) {
            x.price(what, other, other == k ? 8 : 900);
        }
        x.parse(1);
        Due.due("by no other class's price", x.told(2), 1000 * distance + 24);
    }
}
