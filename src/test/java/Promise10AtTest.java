/** Promise 10: what there is at a place of the text. */
public final class Promise10AtTest {
    private Promise10AtTest() {
    }

    public static void main(String[] args) {
        ordinary();
        noneSuch();
        ofTheTextAsItIs();
        withinTheText();
        leastPrices();
        Due.end();
    }

    private static void dueAt(Counted x, int place, int longest, int nearest, int distances) {
        Due.due("at(" + place + ", 0)", x.at(place, 0), longest);
        Due.due("at(" + place + ", 1)", x.at(place, 1), nearest);
        Due.due("at(" + place + ", 2)", x.at(place, 2), distances);
    }

    private static void ordinary() {
        Counted x = Due.withText("abcd1abc2abcde");
        dueAt(x, 0, 0, 0, 0);
        dueAt(x, 4, 0, 0, 0);
        dueAt(x, 5, 3, 5, 1);
        dueAt(x, 6, 0, 0, 0);
        dueAt(x, 9, 4, 9, 2);
        dueAt(x, 10, 3, 9, 1);
        dueAt(x, 11, 0, 0, 0);
        x.limits(2, 3, 500);
        dueAt(x, 9, 3, 4, 2);
        dueAt(x, 6, 2, 5, 1);
        x.limits(2, 64, 8);
        dueAt(x, 9, 3, 4, 1);
        x.limits(4, 64, 500);
        dueAt(x, 9, 4, 9, 1);
        dueAt(x, 5, 0, 0, 0);
        x.limits(5, 64, 500);
        dueAt(x, 9, 0, 0, 0);
    }

    private static void noneSuch() {
        Counted x = Due.withText("aaaaaa");
        for (int what = 0; what < 4; what++) {
            Due.due("at(-1)", x.at(-1, what), -1);
            Due.due("at(7)", x.at(7, what), -1);
            Due.due("at(least int)", x.at(Integer.MIN_VALUE, what), -1);
            Due.due("at(most int)", x.at(Integer.MAX_VALUE, what), -1);
            Due.due("at(6)", x.at(6, what), what == 3 ? 0 : -1);
        }
        for (int what : new int[] {-1, 4, 5, Integer.MIN_VALUE, Integer.MAX_VALUE}) {
            for (int place = -1; place < 8; place++) {
                Due.due("at(" + place + ", " + what + ")", x.at(place, what), -1);
            }
        }
    }

    private static void ofTheTextAsItIs() {
        Counted x = Due.withText("abcab");
        dueAt(x, 3, 0, 0, 0);
        x.parse(0);
        x.type('c', 1);
        dueAt(x, 3, 3, 3, 1);
        x.fill('c', 2);
        dueAt(x, 3, 3, 3, 1);
        Due.due("told(4)", x.told(4), 5);
        x.clear();
        dueAt(x, 3, -1, -1, -1);
        Due.due("at(3, 3)", x.at(3, 3), -1);
    }

    private static void withinTheText() {
        Counted x = new Counted();
        x.fill('a', 10);
        for (int place = 1; place < 10; place++) {
            int length = 10 - place;
            dueAt(x, place, length < 3 ? 0 : length, length < 3 ? 0 : 1, length < 3 ? 0 : place);
        }
        x.limits(3, 4, 2);
        dueAt(x, 5, 4, 1, 2);
        dueAt(x, 1, 4, 1, 1);
    }

    private static void leastPrices() {
        Counted x = Due.withText("abcdeabcde");
        int[] want = {64, 56, 48, 40, 32, 24, 24, 24, 16, 8, 0};
        for (int place = 0; place <= 10; place++) {
            Due.due("at(" + place + ", 3)", x.at(place, 3), want[place]);
        }
        x.price(0, 3, 1);
        Due.due("after price", x.at(0, 3), 10);
        x.price(0, 3, 10);
        Due.due("after price", x.at(5, 3), 24);
        x.limits(6, 9, 9);
        Due.due("after limits", x.at(5, 3), 50);
        x.type('f', 1);
        Due.due("after type", x.at(5, 3), 60);
        x.fill('f', 1);
        Due.due("after fill", x.at(5, 3), 70);
        x.clear();
        Due.due("after clear", x.at(0, 3), 0);
    }
}
