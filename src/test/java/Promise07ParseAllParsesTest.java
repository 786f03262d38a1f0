import java.util.ArrayList;
import java.util.List;
import java.util.Random;

/**
 * Promise 7, the word CHEAPEST: short texts of which every parse there is is made, one after the
 * other, and the one that the document's words choose among them is the one that is due.
 */
public final class Promise07ParseAllParsesTest {
    private static final int[] COUNT = {8, 1, 8, 9};

    private final String text;
    private final int[] limits;
    private final int[][] prices;
    private List<int[]> best = null;
    private int bestPrice = 0;
    private int parses = 0;

    private Promise07ParseAllParsesTest(String text, int[] limits, int[][] prices) {
        this.text = text;
        this.limits = limits;
        this.prices = prices;
        goOn(new ArrayList<>(), 0, 0);
    }

    public static void main(String[] args) {
        allParsesAreMade();
        everyShortText();
        pricesOfAnyKind();
        Due.end();
    }

    /** The test's own count, by hand: it would show nothing if it left parses out. */
    private static void allParsesAreMade() {
        Due.sentence("of all parses");
        int[][] eights = prices(new Random(0), 8, 8);
        Due.due("of no bytes", made("", 2, 9, 9, eights).parses, 1);
        Due.due("of aa", made("aa", 2, 9, 9, eights).parses, 1);
        // bytes alone, or a match of 2 at place 1
        Due.due("of aaa", made("aaa", 2, 9, 9, eights).parses, 2);
        // at place 1 of 2 or of 3; at place 2 of 2 at distances 1 and 2; bytes alone
        Due.due("of aaaa", made("aaaa", 2, 9, 9, eights).parses, 5);
        Due.due("of aaaa by window 1", made("aaaa", 2, 9, 1, eights).parses, 4);
        Due.due("of aaaa by most 2", made("aaaa", 2, 2, 9, eights).parses, 4);
        Due.due("of aaaa by least 3", made("aaaa", 3, 9, 9, eights).parses, 2);
    }

    private static Promise07ParseAllParsesTest made(String text, int least, int most, int window,
            int[][] prices) {
        return new Promise07ParseAllParsesTest(text, new int[] {least, most, window}, prices);
    }

    private static void everyShortText() {
        Due.sentence("of all parses one whose steps' prices are together the least; of these ..");
        Random any = new Random(7);
        for (int size = 0; size <= 7; size++) {
            for (int letters = 0; letters < 1 << size; letters++) {
                StringBuilder text = new StringBuilder();
                for (int k = 0; k < size; k++) {
                    text.append((letters >> k & 1) == 0 ? 'a' : 'Z');
                }
                int[][] same = prices(any, 8, 8);
                same[1][0] = 1 + any.nextInt(8);
                made(text.toString(), 2, 64, 500, same).dueCheapest();
                int[][] near = prices(any, 1, 3);
                made(text.toString(), 2 + any.nextInt(2), 3 + any.nextInt(4), 1 + any.nextInt(6),
                    near).dueCheapest();
            }
        }
    }

    private static void pricesOfAnyKind() {
        Due.sentence("the cheapest way by prices of any kind");
        Random any = new Random(77);
        for (int k = 0; k < 400; k++) {
            StringBuilder text = new StringBuilder();
            int letters = 1 + any.nextInt(3);
            for (int size = 6 + any.nextInt(letters == 1 ? 3 : 5); size > 0; size--) {
                text.append((char) (100 * any.nextInt(letters)));
            }
            int dearest = new int[] {2, 4, 30, 1000}[any.nextInt(4)];
            int[][] prices = prices(any, 1, dearest);
            for (int byteGroup = 0; byteGroup < 8; byteGroup++) {
                prices[0][byteGroup] = Math.min(1000, prices[0][byteGroup] * (1 + any.nextInt(3)));
            }
            made(text.toString(), 2, 2 + any.nextInt(8), 1 + any.nextInt(9), prices).dueCheapest();
        }
    }

    private static int[][] prices(Random any, int from, int to) {
        int[][] rows = new int[COUNT.length][];
        for (int what = 0; what < COUNT.length; what++) {
            rows[what] = new int[COUNT[what]];
            for (int k = 0; k < COUNT[what]; k++) {
                rows[what][k] = from + any.nextInt(to - from + 1);
            }
        }
        return rows;
    }

    private void goOn(List<int[]> steps, int place, int price) {
        if (place == text.length()) {
            parses++;
            if (best == null || price < bestPrice || price == bestPrice && chosenBefore(steps)) {
                best = new ArrayList<>(steps);
                bestPrice = price;
            }
            return;
        }
        for (int[] step : stepsAt(place)) {
            steps.add(step);
            goOn(steps, place + step[1], price + priceOf(step));
            steps.remove(steps.size() - 1);
        }
    }

    /** At the first place where it goes on otherwise: longer, or as long and nearer. */
    private boolean chosenBefore(List<int[]> steps) {
        for (int i = 0; i < steps.size(); i++) {
            int[] mine = steps.get(i);
            int[] other = best.get(i);
            if (mine[1] != other[1]) {
                return mine[1] > other[1];
            }
            if (mine[2] != other[2]) {
                return mine[2] < other[2];
            }
        }
        return false;
    }

    private List<int[]> stepsAt(int place) {
        List<int[]> steps = new ArrayList<>();
        steps.add(new int[] {place, 1, 0, text.charAt(place)});
        for (int distance = 1; distance <= Math.min(place, limits[2]); distance++) {
            int from = place - distance;
            for (int length = limits[0]; length <= limits[1]; length++) {
                if (place + length <= text.length() && text.substring(place, place + length)
                    .equals(text.substring(from, from + length))) {
                    steps.add(new int[] {place, length, distance, -1});
                }
            }
        }
        return steps;
    }

    private int priceOf(int[] step) {
        if (step[2] == 0) {
            return prices[0][step[3] / 32];
        }
        return prices[1][0] + prices[2][halvings(step[1])] + prices[3][halvings(step[2])];
    }

    private static int halvings(int number) {
        return number == 1 ? 0 : 1 + halvings(number / 2);
    }

    private void dueCheapest() {
        Counted x = Due.withText(text);
        x.limits(limits[0], limits[1], limits[2]);
        for (int what = 0; what < COUNT.length; what++) {
            for (int k = 0; k < COUNT[what]; k++) {
                Due.due("price", x.price(what, k, prices[what][k]), 1);
            }
        }
        Due.due("at(0, 3) of " + text, x.at(0, 3), bestPrice);
        Due.due("parse(0) of " + text, x.parse(0), best.size());
        Due.due("told(2) of " + text, x.told(2), bestPrice);
        for (int i = 0; i < best.size(); i++) {
            int[] step = best.get(i);
            Due.dueStep(x, i, step[0], step[1], step[2], step[3]);
        }
    }
}
