/** Promise 10, at its boundaries. */
public final class Promise10AtEdgesTest {
    private Promise10AtEdgesTest() {
    }

    public static void main(String[] args) {
        noSuchPlace();
        theEndHasAPriceAlone();
        noSuchWhat();
        noMatch();
        longestByLimits();
        nearestOfTheLongest();
        distancesOfLeastLength();
        leastPriceOfAll();
        dearestText();
        askingDoesNothing();
        Due.end();
    }

    private static void dueAt(Counted x, int place, int longest, int nearest, int distances) {
        Due.due("at(" + place + ", 0)", x.at(place, 0), longest);
        Due.due("at(" + place + ", 1)", x.at(place, 1), nearest);
        Due.due("at(" + place + ", 2)", x.at(place, 2), distances);
    }

    private static void noSuchPlace() {
        Due.sentence("NONE when there is none such");
        for (int size : new int[] {0, 1, 2, 7, 499, 500}) {
            Counted x = new Counted();
            if (size > 0) {
                x.fill('a', size);
            }
            for (int what = 0; what < 4; what++) {
                for (int place : new int[] {Integer.MIN_VALUE, -500, -2, -1, size + 1, size + 2,
                    501, 502, 65536, Integer.MAX_VALUE}) {
                    Due.due(size + ": at(" + place + ", " + what + ")", x.at(place, what), -1);
                }
            }
        }
    }

    private static void theEndHasAPriceAlone() {
        Due.sentence("the least price of all from the place on (3; also of the text's end)");
        for (int size : new int[] {0, 1, 2, 499, 500}) {
            Counted x = new Counted();
            if (size > 0) {
                x.fill('a', size);
                dueAt(x, size - 1, 0, 0, 0);
                Due.due("the last byte", x.at(size - 1, 3), 8);
            }
            dueAt(x, size, -1, -1, -1);
            Due.due("the end", x.at(size, 3), 0);
            Due.due("behind the end", x.at(size + 1, 3), -1);
            x.clear();
            Due.due("the end of no bytes", x.at(0, 3), 0);
            dueAt(x, 0, -1, -1, -1);
        }
    }

    private static void noSuchWhat() {
        Due.sentence("NONE when there is none such");
        Counted x = Due.withText("abcabc");
        for (int what : new int[] {Integer.MIN_VALUE, -2, -1, 4, 5, 256, Integer.MAX_VALUE}) {
            for (int place = -1; place <= 7; place++) {
                Due.due("at(" + place + ", " + what + ")", x.at(place, what), -1);
            }
        }
    }

    private static void noMatch() {
        Due.sentence("0 for none");
        Counted x = Due.withText("abcab");
        for (int place = 0; place < 5; place++) {
            dueAt(x, place, 0, 0, 0);
        }
        x.limits(2, 64, 500);
        dueAt(x, 3, 2, 3, 1);
        dueAt(x, 4, 0, 0, 0);
        dueAt(x, 0, 0, 0, 0);
    }

    private static void longestByLimits() {
        Due.sentence("The longest match at a place of the text");
        Counted x = new Counted();
        x.fill('a', 500);
        x.limits(2, 255, 500);
        dueAt(x, 0, 0, 0, 0);
        dueAt(x, 1, 255, 1, 1);
        dueAt(x, 244, 255, 1, 244);
        dueAt(x, 245, 255, 1, 245);
        dueAt(x, 246, 254, 1, 246);
        dueAt(x, 498, 2, 1, 498);
        dueAt(x, 499, 0, 0, 0);
        x.limits(16, 16, 1);
        dueAt(x, 483, 16, 1, 1);
        dueAt(x, 484, 16, 1, 1);
        dueAt(x, 485, 0, 0, 0);
    }

    private static void nearestOfTheLongest() {
        Due.sentence("the nearest distance of those");
        // "abcd" at the distances 15 and 10, "abc" at 3
        Counted x = Due.withText("abcd1abcd2--abcabcd");
        dueAt(x, 15, 4, 10, 3);
        x.limits(3, 3, 500);
        dueAt(x, 15, 3, 3, 3);
        x.limits(3, 64, 9);
        dueAt(x, 15, 3, 3, 1);
        x.limits(3, 64, 10);
        dueAt(x, 15, 4, 10, 2);
        x.limits(3, 64, 14);
        dueAt(x, 15, 4, 10, 2);
        x.limits(3, 64, 15);
        dueAt(x, 15, 4, 10, 3);
        x.limits(4, 64, 15);
        dueAt(x, 15, 4, 10, 2);
    }

    private static void distancesOfLeastLength() {
        Due.sentence("how many distances have one of least length");
        Counted x = new Counted();
        x.fill('a', 40);
        for (int least = 2; least <= 16; least++) {
            x.limits(least, 64, 30);
            int last = 40 - least;
            Due.due("the last place", x.at(last, 2), Math.min(30, last));
            Due.due("one on", x.at(last + 1, 2), 0);
            Due.due("within the window", x.at(20, 2), 20);
        }
        // most does not count
        x.limits(16, 16, 500);
        Due.due("by most 16", x.at(24, 2), 24);
    }

    private static void leastPriceOfAll() {
        Due.sentence("the least price of all from the place on");
        Counted x = Due.withText("abcdeabcde");
        // a match of 5 and five bytes
        for (int price = 23; price <= 25; price++) {
            x.price(1, 0, price);
            Due.due("by " + price, x.at(5, 3), Math.min(40, price + 16));
            Due.due("from the beginning", x.at(0, 3), 40 + Math.min(40, price + 16));
        }
        // from a place on a match may begin there, but not before it
        x.price(1, 0, 1);
        int[] want = {57, 49, 41, 33, 25, 17, 17, 17, 16, 8, 0};
        for (int place = 0; place <= 10; place++) {
            Due.due("at(" + place + ", 3)", x.at(place, 3), want[place]);
        }
    }

    private static void dearestText() {
        Due.sentence("PRICES are 1 to 1000");
        Counted x = new Counted();
        x.fill('a', 500);
        x.limits(2, 2, 1);
        x.price(0, 3, 1000);
        x.price(1, 0, 1000);
        x.price(2, 1, 1000);
        x.price(3, 0, 1000);
        for (int place : new int[] {0, 1, 2, 250, 497, 498, 499, 500}) {
            Due.due("at(" + place + ", 3)", x.at(place, 3), 1000 * (500 - place));
        }
        x.price(0, 3, 1);
        Due.due("the cheapest", x.at(0, 3), 500);
    }

    private static void askingDoesNothing() {
        Due.sentence("NONE when there is none such");
        Twins.nothingDone("at(-1, 0)", -1, x -> x.at(-1, 0));
        Twins.nothingDone("at(0, 4)", -1, x -> x.at(0, 4));
        Twins.nothingDone("at(501, 3)", -1, x -> x.at(501, 3));
    }
}
