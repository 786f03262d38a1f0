/** Promise 7: the cheapest parse, the greedy and the lazy one. */
public final class Promise07ParseTest {
    private Promise07ParseTest() {
    }

    public static void main(String[] args) {
        noSuchWay();
        emptyText();
        threeWays();
        longestOfEquallyCheap();
        nearestOfEquallyCheap();
        shorterMatchIsCheaper();
        lazyWaits();
        lazyTakesEquallyLong();
        lazyAtTheEnd();
        greedyTakesNearest();
        matchIntoItself();
        parsesWhatIsThereNow();
        wholeText();
        Due.end();
    }

    private static void noSuchWay() {
        Counted x = Due.withText("abab");
        for (int way : new int[] {-1, 3, 4, Integer.MIN_VALUE, Integer.MAX_VALUE}) {
            Due.due("parse(" + way + ")", x.parse(way), -1);
            Due.dueTold(x, 0, 0, 0, 0, 0);
            Due.due("write()", x.write(), 0);
        }
        Due.due("parse(0)", x.parse(0), 4);
        x.type('a', 1);
        for (int way : new int[] {-1, 3, 4}) {
            Due.due("parse(" + way + ")", x.parse(way), -1);
            Due.dueTold(x, 4, 0, 32, 16 + 36, 4);
            Due.dueStep(x, 3, 3, 1, 0, 'b');
        }
    }

    private static void emptyText() {
        for (int way = 0; way < 3; way++) {
            Counted x = new Counted();
            Due.due("parse(" + way + ")", x.parse(way), 0);
            Due.dueTold(x, 0, 0, 0, 16, 0);
            Due.dueWritten(x, "00000000 00000000");
        }
    }

    /** At 11 greedy takes "bcd", lazy and cheapest wait for "cdefgh". */
    private static void threeWays() {
        Counted x = Due.withText("bcd-cdefgh-bcdefgh");
        Due.due("greedy", x.parse(1), 13);
        Due.dueStep(x, 10, 10, 1, 0, '-');
        Due.dueStep(x, 11, 11, 3, 11, -1);
        Due.dueStep(x, 12, 14, 4, 8, -1);
        Due.due("lazy", x.parse(2), 13);
        Due.dueStep(x, 11, 11, 1, 0, 'b');
        Due.dueStep(x, 12, 12, 6, 8, -1);
        Due.due("cheapest", x.parse(0), 13);
        Due.due("its price", x.told(2), 12 * 8 + 24);
        Due.dueStep(x, 12, 12, 6, 8, -1);
    }

    private static void longestOfEquallyCheap() {
        Counted x = Due.withText("abcabc");
        Due.due("a match as cheap as three bytes", x.parse(0), 4);
        Due.dueStep(x, 3, 3, 3, 3, -1);
        x.price(1, 0, 9);
        Due.due("a match dearer than three bytes", x.parse(0), 6);
        // 5 and 2 are as cheap as 4 and 3, 3 and 4, 2 and 5: the longest stands first
        x = Due.withText("abcdefgabcdefg");
        x.limits(2, 5, 500);
        x.price(0, 3, 100);
        Due.due("parse(0)", x.parse(0), 9);
        Due.dueStep(x, 7, 7, 5, 7, -1);
        Due.dueStep(x, 8, 12, 2, 7, -1);
    }

    private static void nearestOfEquallyCheap() {
        Counted x = Due.withText("wxyz1wxyz23wxyz");
        x.price(0, 3, 100);
        Due.due("parse(0)", x.parse(0), 9);
        Due.dueStep(x, 5, 5, 4, 5, -1);
        Due.dueStep(x, 8, 11, 4, 6, -1);
        // the distance 6 is of class 2, the distance 11 of class 3
        x.price(3, 2, 9);
        x.parse(0);
        Due.dueStep(x, 8, 11, 4, 11, -1);
        // the distances 8 and 15 are of one class; "abcdef" is at the farther one alone
        x = Due.withText("abcdef1abcd2345abcdef");
        x.parse(0);
        Due.dueStep(x, x.told(0) - 1, 15, 6, 15, -1);
        x.limits(3, 4, 500);
        x.parse(0);
        Due.dueStep(x, x.told(0) - 3, 15, 4, 8, -1);
    }

    private static void shorterMatchIsCheaper() {
        Counted x = Due.withText("abcdefgh-abcdefgh");
        x.price(2, 3, 1000);
        Due.due("parse(0)", x.parse(0), 11);
        Due.dueStep(x, 9, 9, 7, 9, -1);
        Due.dueStep(x, 10, 16, 1, 0, 'h');
        Due.due("told(2)", x.told(2), 9 * 8 + 24 + 8);
        // greedy does not look at prices
        Due.due("parse(1)", x.parse(1), 10);
        Due.dueStep(x, 9, 9, 8, 9, -1);
        Due.due("told(2)", x.told(2), 9 * 8 + 16 + 1000);
    }

    private static void lazyWaits() {
        Counted x = Due.withText("abc1bcde2cdefg3abcdefg");
        // at 15 "abc", at 16 "bcde", at 17 "cdefg": it waits twice
        x.parse(2);
        int last = x.told(0) - 1;
        Due.dueStep(x, last, 17, 5, 8, -1);
        Due.dueStep(x, last - 1, 16, 1, 0, 'b');
        Due.dueStep(x, last - 2, 15, 1, 0, 'a');
    }

    private static void lazyTakesEquallyLong() {
        Counted x = Due.withText("abc1bcd2abcd");
        x.parse(2);
        int last = x.told(0) - 1;
        Due.dueStep(x, last - 1, 8, 3, 8, -1);
        Due.dueStep(x, last, 11, 1, 0, 'd');
    }

    private static void lazyAtTheEnd() {
        Counted x = Due.withText("abcabc");
        Due.due("parse(2)", x.parse(2), 4);
        Due.dueStep(x, 3, 3, 3, 3, -1);
        x = Due.withText("a");
        Due.due("parse(2)", x.parse(2), 1);
        Due.dueStep(x, 0, 0, 1, 0, 'a');
        // the text was longer before: the matches behind its end are gone
        x = Due.withText("abcabc");
        x.fill('q', 100);
        x.parse(2);
        x.clear();
        Due.typeAll(x, "xyz1xyz");
        Due.due("parse(2)", x.parse(2), 5);
        Due.dueStep(x, 4, 4, 3, 4, -1);
    }

    private static void greedyTakesNearest() {
        Counted x = Due.withText("abcd1abc2abce");
        x.parse(1);
        Due.dueStep(x, 7, 9, 3, 4, -1);
        x = Due.withText("abcd1abc2abcd");
        x.parse(1);
        Due.dueStep(x, 7, 9, 4, 9, -1);
    }

    private static void matchIntoItself() {
        for (int way = 0; way < 3; way++) {
            Counted x = Due.withText("abababababab");
            Due.due("parse(" + way + ")", x.parse(way), 3);
            Due.dueStep(x, 2, 2, 10, 2, -1);
        }
    }

    private static void parsesWhatIsThereNow() {
        Counted x = Due.withText("abcd");
        Due.due("parse(0)", x.parse(0), 4);
        x.type(Due.packed("abcd"), 4);
        Due.due("after type", x.parse(0), 5);
        x.fill('d', 4);
        Due.due("after fill", x.parse(0), 6);
        x.limits(5, 64, 500);
        Due.due("after limits", x.parse(0), 12);
        x.limits(3, 64, 500);
        x.price(1, 0, 1000);
        Due.due("after price", x.parse(0), 12);
        Due.due("greedily", x.parse(1), 6);
        x.clear();
        Due.due("after clear", x.parse(0), 0);
    }

    private static void wholeText() {
        Counted x = new Counted();
        x.fill(0, 500);
        x.limits(2, 255, 500);
        for (int way = 0; way < 3; way++) {
            Due.due("parse(" + way + ")", x.parse(way), 3);
            Due.dueStep(x, 1, 1, 255, 1, -1);
            Due.dueStep(x, 2, 256, 244, 1, -1);
        }
        x = new Counted();
        x.fill(0, 499);
        x.fill(1, 1);
        Due.due("the last byte alone", x.parse(2), 10);
        Due.dueStep(x, 9, 499, 1, 0, 1);
        x = new Counted();
        for (int k = 0; k < 250; k++) {
            x.type(k << 8 | k * 7 & 255, 2);
        }
        x.price(1, 0, 1000);
        Due.due("all bytes alone", x.parse(0), 500);
        Due.dueStep(x, 499, 499, 1, 0, 249 * 7 & 255);
    }
}
