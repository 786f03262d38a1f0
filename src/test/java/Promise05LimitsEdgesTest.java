/** Promise 5, at its boundaries, and those of a match that the limits set. */
public final class Promise05LimitsEdgesTest {
    private Promise05LimitsEdgesTest() {
    }

    public static void main(String[] args) {
        taken();
        leastRefused();
        mostRefused();
        windowRefused();
        lengthFromLeast();
        lengthToMost();
        mostAsLeast();
        distanceToWindow();
        refusedAmongTaken();
        Due.end();
    }

    private static void taken() {
        Due.sentence("The limits: 1");
        for (int least = 2; least <= 16; least++) {
            Counted x = new Counted();
            for (int most : new int[] {least, least + 1, 254, 255}) {
                for (int window : new int[] {1, 2, 499, 500}) {
                    Due.due("limits(" + least + ", " + most + ", " + window + ")",
                        x.limits(least, most, window), 1);
                }
            }
        }
    }

    private static void refused(int least, int most, int window) {
        Twins.nothingDone("limits(" + least + ", " + most + ", " + window + ")", 0,
            x -> x.limits(least, most, window));
    }

    private static void leastRefused() {
        Due.sentence("0, and nothing is done, when least is not 2 .. 16");
        for (int least : new int[] {1, 0, -1, -2, 17, 18, 255, 258, Integer.MIN_VALUE,
            Integer.MAX_VALUE}) {
            refused(least, 64, 500);
            refused(least, 255, 1);
            refused(least, least, 1);
        }
    }

    private static void mostRefused() {
        Due.sentence("0, and nothing is done, when .. most not from it to 255");
        for (int least : new int[] {2, 3, 15, 16}) {
            for (int most : new int[] {least - 1, 1, 0, -1, 256, 257, 512 + 20,
                Integer.MIN_VALUE, Integer.MAX_VALUE}) {
                refused(least, most, 500);
            }
        }
    }

    private static void windowRefused() {
        Due.sentence("0, and nothing is done, when .. window not 1 .. 500");
        for (int window : new int[] {0, -1, -500, 501, 502, 512, 65536 + 9,
            Integer.MIN_VALUE, Integer.MAX_VALUE}) {
            refused(2, 255, window);
            refused(16, 16, window);
        }
    }

    private static void lengthFromLeast() {
        Due.sentence("a LENGTH from LEAST");
        for (int least = 2; least <= 16; least++) {
            for (int length = least - 1; length <= least + 1; length++) {
                Counted x = Due.withText(Texts.oneMatch(length, 20));
                x.limits(least, 255, 500);
                boolean match = length >= least;
                Due.due(length + " by least " + least, x.at(20, 0), match ? length : 0);
                Due.due("nearest", x.at(20, 1), match ? 20 : 0);
                Due.due("distances", x.at(20, 2), match ? 1 : 0);
                for (int way = 0; way < 3; way++) {
                    x.price(0, 0, 1000);
                    Due.due("parse", x.parse(way), match ? 21 : 20 + length);
                }
            }
        }
    }

    private static void lengthToMost() {
        Due.sentence("a LENGTH .. to MOST");
        for (int most : new int[] {16, 17, 63, 64, 65, 127, 128, 200, 254, 255}) {
            for (int length = most - 1; length <= most + 1; length++) {
                Counted x = new Counted();
                x.fill('a', length + 1);
                x.limits(16, most, 1);
                int longest = length < 16 ? 0 : Math.min(length, most);
                Due.due(length + " by most " + most, x.at(1, 0), longest);
                Due.due("parse(1)", x.parse(1), longest == 0 ? 16 : length > most ? 3 : 2);
                Due.due("its length", x.step(1, 1), Math.max(1, longest));
            }
        }
    }

    private static void mostAsLeast() {
        Due.sentence("most not from it");
        for (int both = 2; both <= 16; both++) {
            Counted x = new Counted();
            x.fill('a', 1 + 3 * both);
            Due.due("limits", x.limits(both, both, 500), 1);
            for (int way = 0; way < 3; way++) {
                x.price(0, 3, 1000);
                Due.due("parse", x.parse(way), 4);
                for (int i = 1; i < 4; i++) {
                    Due.dueStep(x, i, 1 + (i - 1) * both, both, 1, -1);
                }
            }
        }
    }

    private static void distanceToWindow() {
        Due.sentence("a DISTANCE from 1 to WINDOW");
        for (int distance : new int[] {1, 2, 3, 4, 7, 8, 9, 255, 256, 257, 496, 497, 498}) {
            Counted x = Due.withText(Texts.oneMatch(2, distance));
            for (int window = Math.max(1, distance - 1); window <= distance + 1; window++) {
                Due.due("limits", x.limits(2, 255, window), 1);
                boolean match = distance <= window;
                Due.due(distance + " by window " + window, x.at(distance, 0), match ? 2 : 0);
                Due.due("nearest", x.at(distance, 1), match ? distance : 0);
                Due.due("parse(1)", x.parse(1), match ? distance + 1 : distance + 2);
            }
        }
        Counted x = new Counted();
        x.fill('a', 500);
        for (int window : new int[] {1, 2, 3, 255, 256, 495, 496, 497, 498, 500}) {
            x.limits(3, 64, window);
            Due.due("distances by window " + window, x.at(497, 2), Math.min(497, window));
        }
    }

    private static void refusedAmongTaken() {
        Due.sentence("0, and nothing is done");
        Counted x = new Counted();
        x.fill('a', 300);
        int[][] fine = {{2, 2, 1}, {16, 255, 500}, {2, 255, 2}, {16, 16, 499}, {5, 200, 250}};
        int[][] bad = {{1, 10, 9}, {17, 20, 9}, {9, 8, 7}, {2, 256, 1}, {2, 3, 0}, {2, 3, 501}};
        for (int[] l : fine) {
            Due.due("limits", x.limits(l[0], l[1], l[2]), 1);
            for (int[] b : bad) {
                Due.due("limits refused", x.limits(b[0], b[1], b[2]), 0);
                Due.due("most", x.at(1, 0), l[1]);
                Due.due("window", x.at(284, 2), Math.min(284, l[2]));
                Due.due("least", x.at(300 - l[0], 0), l[0]);
                Due.due("under least", x.at(301 - l[0], 0), 0);
            }
        }
    }
}
