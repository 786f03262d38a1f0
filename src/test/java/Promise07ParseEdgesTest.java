/** Promise 7, at its boundaries, and those of the three ways. */
public final class Promise07ParseEdgesTest {
    private Promise07ParseEdgesTest() {
    }

    public static void main(String[] args) {
        noSuchWay();
        howManySteps();
        notMoreThanThePlace();
        allWithinTheText();
        mayGoOnIntoIt();
        asCheapAsBytes();
        longestStepThatIsSoCheap();
        fromTheLeftOn();
        nearestSuchOne();
        nearestOfClasses();
        greedyLongestAndNearest();
        greedyWithoutAnyMatch();
        lazyByTheNextPlace();
        lazyUnderMost();
        lazyAtTheEnd();
        dearestAndCheapestPrices();
        Due.end();
    }

    private static void noSuchWay() {
        Due.sentence("NONE, and the latest parse stays, when there is no such way");
        for (int way : new int[] {-1, -2, 3, 4, 256, 257, Integer.MIN_VALUE, Integer.MAX_VALUE}) {
            Twins.nothingDone("parse(" + way + ")", -1, x -> x.parse(way));
        }
    }

    private static void howManySteps() {
        Due.sentence("how many steps");
        for (int way = 0; way < 3; way++) {
            Counted x = new Counted();
            Due.due("of no bytes", x.parse(way), 0);
            x.fill('a', 1);
            Due.due("of one byte", x.parse(way), 1);
            x.clear();
            Due.due("of no bytes any more", x.parse(way), 0);
            Due.due("told(4)", x.told(4), 0);
            x = Due.withText(Texts.apart(500));
            x.limits(2, 255, 500);
            Due.due("of 500 bytes alone", x.parse(way), 500);
            Due.dueStep(x, 499, 499, 1, 0, Texts.apart(500).charAt(499));
            Due.due("there is no step 500", x.step(500, 0), -1);
        }
    }

    private static void notMoreThanThePlace() {
        Due.sentence("a DISTANCE .. not more than the place");
        for (int place = 1; place <= 12; place++) {
            for (int way = 0; way < 3; way++) {
                Counted x = Due.withText(Texts.oneMatch(4, place));
                x.price(0, 0, 1000);
                Due.due("parse", x.parse(way), place + 1);
                Due.dueStep(x, place, place, 4, place, -1);
            }
        }
        Counted x = new Counted();
        x.fill(0, 20);
        Due.due("none at the beginning", x.at(0, 0), 0);
        Due.due("one distance at 1", x.at(1, 2), 1);
    }

    private static void allWithinTheText() {
        Due.sentence("as many bytes from the place on, all within the text");
        // what a longer text before had at 6 and 7 would make the match longer
        Counted x = Due.withText("abcdeabcdeabcde");
        x.parse(1);
        x.clear();
        Due.typeAll(x, "abcde");
        Due.due("type", x.type(Due.packed("abc"), 3), 8);
        for (int way = 0; way < 3; way++) {
            Due.due("parse", x.parse(way), 6);
            Due.dueStep(x, 5, 5, 3, 5, -1);
        }
        x.clear();
        Due.typeAll(x, "abcdeab");
        for (int way = 0; way < 3; way++) {
            Due.due("parse", x.parse(way), 7);
        }
    }

    private static void mayGoOnIntoIt() {
        Due.sentence("these may go on into it");
        for (int distance = 1; distance <= 5; distance++) {
            for (int way = 0; way < 3; way++) {
                Counted x = Due.withText(Texts.oneMatch(distance + 5, distance));
                x.price(0, 0, 1000);
                Due.due("parse", x.parse(way), distance + 1);
                Due.dueStep(x, distance, distance, distance + 5, distance, -1);
                Due.due("check()", x.check(), 1);
            }
        }
    }

    private static void asCheapAsBytes() {
        Due.sentence("together the least .. a byte alone has length 1");
        Counted x = Due.withText("abcdeabcde");
        // five bytes cost 40
        x.price(1, 0, 23);
        Due.due("one cheaper", x.parse(0), 6);
        Due.due("told(2)", x.told(2), 79);
        x.price(1, 0, 24);
        Due.due("as cheap", x.parse(0), 6);
        Due.dueStep(x, 5, 5, 5, 5, -1);
        Due.due("told(2)", x.told(2), 80);
        x.price(1, 0, 25);
        Due.due("one dearer", x.parse(0), 10);
        Due.due("told(2)", x.told(2), 80);
    }

    private static void longestStepThatIsSoCheap() {
        Due.sentence("it goes on with the longest step by which it can still be so cheap");
        // 8 bytes by one match of class 3, or 7 by one of class 2 and a byte alone for 8
        for (int price = 15; price <= 17; price++) {
            Counted x = Due.withText("abcdefgh-abcdefgh");
            x.price(2, 3, price);
            Due.due("parse(0)", x.parse(0), price <= 16 ? 10 : 11);
            Due.due("length", x.step(9, 1), price <= 16 ? 8 : 7);
            Due.due("told(2)", x.told(2), 72 + 16 + Math.min(16, price));
            Due.due("at(9, 3)", x.at(9, 3), 16 + Math.min(16, price));
        }
    }

    private static void fromTheLeftOn() {
        Due.sentence("at each place from the left on");
        // 9 bytes by two matches of 2 to 6: the first is the longest that leaves a match
        Counted x = Due.withText("abcdefghi-abcdefghi");
        x.limits(2, 6, 500);
        x.price(0, 3, 1000);
        Due.due("parse(0)", x.parse(0), 12);
        Due.dueStep(x, 10, 10, 6, 10, -1);
        Due.dueStep(x, 11, 16, 3, 10, -1);
        x.limits(4, 6, 500);
        Due.due("parse(0)", x.parse(0), 12);
        Due.dueStep(x, 10, 10, 5, 10, -1);
        Due.dueStep(x, 11, 15, 4, 10, -1);
        // a match first and a byte alone last, not the other way round
        x = Due.withText("abcd-abcd");
        x.limits(3, 3, 500);
        x.price(1, 0, 1);
        Due.due("parse(0)", x.parse(0), 7);
        Due.dueStep(x, 5, 5, 3, 5, -1);
        Due.dueStep(x, 6, 8, 1, 0, 'd');
    }

    private static void nearestSuchOne() {
        Due.sentence("of matches of that length with the nearest such one");
        // "wxyz" at distances 5 and 12
        for (int price = 7; price <= 9; price++) {
            Counted x = Due.withText("wxyz123wxyz-wxyz");
            x.price(0, 3, 100);
            x.price(3, 3, price);
            x.parse(0);
            int last = x.told(0) - 1;
            Due.dueStep(x, last, 12, 4, price < 8 ? 12 : 5, -1);
        }
        // the nearer one is too short
        Counted x = Due.withText("wxyz1wxy-wxyz");
        x.price(0, 3, 100);
        x.parse(0);
        Due.dueStep(x, x.told(0) - 1, 9, 4, 9, -1);
    }

    private static void nearestOfClasses() {
        Due.sentence("the nearest such one");
        Counted x = new Counted();
        // one byte alone, as they are dear, and 31 matches, the last of them at 481
        x.fill('a', 497);
        x.price(0, 3, 1000);
        x.limits(16, 16, 500);
        for (int cheap = 0; cheap < 9; cheap++) {
            for (int k = 0; k < 9; k++) {
                x.price(3, k, k == cheap ? 7 : 8);
            }
            Due.due("parse(0)", x.parse(0), 32);
            Due.dueStep(x, 31, 481, 16, 1 << cheap, -1);
        }
        // the cheap class begins just behind the window, and just within it
        x.limits(16, 16, 255);
        x.parse(0);
        Due.dueStep(x, 31, 481, 16, 1, -1);
        x.limits(16, 16, 256);
        x.parse(0);
        Due.dueStep(x, 31, 481, 16, 256, -1);
    }

    private static void greedyLongestAndNearest() {
        Due.sentence("at each place the longest match, the nearest of these");
        Counted x = Due.withText("abcde1abcd2abc3abcde");
        x.parse(1);
        Due.dueStep(x, x.told(0) - 1, 15, 5, 15, -1);
        x.limits(3, 4, 500);
        x.parse(1);
        Due.dueStep(x, x.told(0) - 2, 15, 4, 9, -1);
        x.limits(3, 3, 500);
        x.parse(1);
        Due.dueStep(x, x.told(0) - 3, 15, 3, 4, -1);
        x.limits(3, 64, 14);
        x.parse(1);
        Due.dueStep(x, x.told(0) - 2, 15, 4, 9, -1);
        x.limits(3, 64, 8);
        x.parse(1);
        Due.dueStep(x, x.told(0) - 3, 15, 3, 4, -1);
    }

    private static void greedyWithoutAnyMatch() {
        Due.sentence("a byte alone, if there is none");
        Counted x = Due.withText("abcde-abcde");
        x.price(0, 3, 1);
        x.price(1, 0, 1000);
        Due.due("greedy whatever it costs", x.parse(1), 7);
        x.limits(6, 64, 500);
        Due.due("none", x.parse(1), 11);
        x.limits(2, 64, 5);
        Due.due("none", x.parse(1), 11);
    }

    private static void lazyByTheNextPlace() {
        Due.sentence("a byte alone also where the longest match is shorter than"
            + " the longest one at the next place");
        // "abc" here; at the next place "bc", "bcd", "bcde"
        lazyLast("abc1abc", 4, 3, 4);
        lazyLast("abc1bcd2abcd", 8, 3, 8);
        lazyLast("abc1bcde2abcde", 9, 1, 0);
        // no match here, and one at the next place
        lazyLast("bcd1abcd", 4, 1, 0);
        // longer at the next place but one alone
        lazyLast("abc1cdef2abcdef", 9, 3, 9);
        // once it waited it looks one place on from there
        Counted x = Due.withText("abc1bcde2cdefg3abcdefg");
        x.parse(2);
        Due.dueStep(x, x.told(0) - 3, 15, 1, 0, 'a');
        Due.dueStep(x, x.told(0) - 2, 16, 1, 0, 'b');
        Due.dueStep(x, x.told(0) - 1, 17, 5, 8, -1);
    }

    private static void lazyLast(String text, int place, int length, int distance) {
        Counted x = Due.withText(text);
        int steps = x.parse(2);
        for (int i = 0; i < steps; i++) {
            if (x.step(i, 0) == place) {
                Due.due(text + ": length at " + place, x.step(i, 1), length);
                Due.due(text + ": distance at " + place, x.step(i, 2), distance);
                return;
            }
        }
        Due.due(text + ": a step at", -1, place);
    }

    private static void lazyUnderMost() {
        Due.sentence("the longest match is shorter than the longest one at the next place");
        // 3 here and 4 at the next place: by most 3 they are equally long
        String text = "abc1bcde2abcde";
        Counted x = Due.withText(text);
        x.limits(3, 3, 500);
        Due.due("parse(2)", x.parse(2), 12);
        Due.dueStep(x, 9, 9, 3, 9, -1);
        x.limits(3, 4, 500);
        x.parse(2);
        Due.dueStep(x, 9, 9, 1, 0, 'a');
        Due.dueStep(x, 10, 10, 4, 6, -1);
        // the one at the next place is too far
        x = Due.withText("bcde1abc-abcde");
        x.parse(2);
        Due.dueStep(x, x.told(0) - 2, 9, 1, 0, 'a');
        x.limits(3, 64, 9);
        x.parse(2);
        Due.dueStep(x, x.told(0) - 3, 9, 3, 4, -1);
        // the next place is the first one of which it is not too far
        x.limits(3, 64, 10);
        x.parse(2);
        Due.dueStep(x, x.told(0) - 2, 9, 1, 0, 'a');
    }

    private static void lazyAtTheEnd() {
        Due.sentence("at the next place");
        // the next place of the last byte is the end, where there is no match
        for (int size = 1; size <= 8; size++) {
            Counted x = new Counted();
            x.fill('a', 500);
            x.parse(2);
            x.clear();
            x.fill('b', size);
            x.limits(2, 255, 500);
            Due.due("parse(2)", x.parse(2), size < 3 ? size : 2);
        }
        Counted x = new Counted();
        x.fill('a', 500);
        x.limits(2, 2, 1);
        Due.due("of 500", x.parse(2), 251);
        Due.dueStep(x, 249, 497, 2, 1, -1);
        Due.dueStep(x, 250, 499, 1, 0, 'a');
    }

    private static void dearestAndCheapestPrices() {
        Due.sentence("one whose steps' prices are together the least");
        Counted x = new Counted();
        x.fill(0, 500);
        x.limits(2, 2, 1);
        x.price(0, 0, 1000);
        x.price(1, 0, 1000);
        x.price(2, 1, 1000);
        x.price(3, 0, 1000);
        Due.due("all bytes", x.parse(0), 500);
        Due.due("told(2)", x.told(2), 500000);
        Due.due("greedily", x.parse(1), 251);
        Due.due("told(2)", x.told(2), 2 * 1000 + 249 * 3000);
        x.price(0, 0, 1);
        x.parse(0);
        Due.due("told(2)", x.told(2), 500);
        x.price(0, 0, 1000);
        x.price(1, 0, 1);
        x.price(2, 1, 1);
        x.price(3, 0, 1);
        Due.due("matches", x.parse(0), 251);
        Due.due("told(2)", x.told(2), 2 * 1000 + 249 * 3);
    }
}
