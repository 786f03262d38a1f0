/** Promise 5: limits of matches. */
public final class Promise05LimitsTest {
    private Promise05LimitsTest() {
    }

    public static void main(String[] args) {
        taken();
        refused();
        least();
        most();
        window();
        Due.end();
    }

    private static void taken() {
        Counted x = new Counted();
        int[][] fine = {{2, 2, 1}, {16, 16, 500}, {16, 255, 1}, {2, 255, 500}, {3, 64, 500}};
        for (int[] l : fine) {
            Due.due("limits " + l[0] + " " + l[1] + " " + l[2], x.limits(l[0], l[1], l[2]), 1);
        }
    }

    private static void refused() {
        Counted x = new Counted();
        x.fill('a', 300);
        x.limits(4, 20, 9);
        int[][] bad = {{1, 20, 9}, {0, 0, 9}, {-3, 20, 9}, {17, 20, 9}, {4, 3, 9}, {16, 15, 9},
            {4, 256, 9}, {4, -1, 9}, {4, 20, 0}, {4, 20, -1}, {4, 20, 501},
            {Integer.MIN_VALUE, Integer.MAX_VALUE, Integer.MAX_VALUE}};
        for (int[] l : bad) {
            Due.due("limits " + l[0] + " " + l[1] + " " + l[2], x.limits(l[0], l[1], l[2]), 0);
            Due.due("most stays", x.at(100, 0), 20);
            Due.due("window stays", x.at(100, 2), 9);
            Due.due("least stays", x.at(296, 0), 4);
            Due.due("least stays", x.at(297, 0), 0);
        }
    }

    private static void least() {
        Counted x = Due.withText("abcdeabcd");
        x.limits(4, 64, 500);
        Due.due("of just the least length", x.at(5, 0), 4);
        x.limits(5, 64, 500);
        Due.due("under the least length", x.at(5, 0), 0);
        Due.due("none of that length", x.at(5, 2), 0);
        x.limits(2, 64, 500);
        Due.due("least 2", x.at(7, 0), 2);
        Due.due("a single byte is no match", x.at(8, 0), 0);
    }

    private static void most() {
        Counted x = Due.withText("abcdefabcdef");
        x.limits(2, 6, 500);
        Due.due("most 6", x.at(6, 0), 6);
        x.limits(2, 5, 500);
        Due.due("most 5", x.at(6, 0), 5);
        Due.due("parse(1)", x.parse(1), 8);
        Due.dueStep(x, 6, 6, 5, 6, -1);
        Due.dueStep(x, 7, 11, 1, 0, 'f');
    }

    private static void window() {
        Counted x = Due.withText("abc1abc");
        x.limits(3, 64, 4);
        Due.due("distance 4", x.at(4, 0), 3);
        x.limits(3, 64, 3);
        Due.due("distance over window", x.at(4, 0), 0);
        Due.due("parse(0)", x.parse(0), 7);
        x.limits(3, 64, 4);
        x.price(1, 0, 1);
        Due.due("parse(0)", x.parse(0), 5);
        Due.dueStep(x, 4, 4, 3, 4, -1);
    }
}
