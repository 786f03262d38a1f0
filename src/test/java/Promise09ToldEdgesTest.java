/** Promise 9, at its boundaries. */
public final class Promise09ToldEdgesTest {
    private Promise09ToldEdgesTest() {
    }

    public static void main(String[] args) {
        withoutAParse();
        others();
        noBytes();
        oneByte();
        fiveHundred();
        pricesAsTheyWereThen();
        limitsAsTheyWereThen();
        textAsItWasThen();
        Due.end();
    }

    private static void withoutAParse() {
        Due.sentence("0 without a parse");
        Counted x = new Counted();
        Due.dueTold(x, 0, 0, 0, 0, 0);
        x.fill('a', 9);
        x.at(0, 3);
        x.write();
        Due.due("parse(3)", x.parse(3), -1);
        Due.due("parse(-1)", x.parse(-1), -1);
        Due.dueTold(x, 0, 0, 0, 0, 0);
        x.parse(1);
        Due.dueTold(x, 2, 1, 32, 16 + 9 + 1 + 5 + 4, 9);
    }

    private static void others() {
        Due.sentence("NONE for others");
        for (int what : new int[] {-1, -2, 5, 6, 256, Integer.MIN_VALUE, Integer.MAX_VALUE}) {
            Twins.nothingDone("told(" + what + ")", -1, x -> x.told(what));
        }
    }

    private static void noBytes() {
        Due.sentence("Of the latest parse .. the bits that it takes");
        for (int way = 0; way < 3; way++) {
            Counted x = new Counted();
            x.parse(way);
            Due.dueTold(x, 0, 0, 0, 16, 0);
            // one of no bytes after one of some
            x.fill('a', 20);
            x.parse(way);
            x.clear();
            x.parse(way);
            Due.dueTold(x, 0, 0, 0, 16, 0);
        }
    }

    private static void oneByte() {
        Due.sentence("Of the latest parse the number of steps");
        for (int way = 0; way < 3; way++) {
            Counted x = new Counted();
            x.fill(255, 1);
            x.price(0, 7, 1000);
            x.parse(way);
            Due.dueTold(x, 1, 0, 1000, 25, 1);
        }
    }

    private static void fiveHundred() {
        Due.sentence("Of the latest parse .. the bytes of its text");
        Counted x = Due.withText(Texts.apart(500));
        x.parse(1);
        Due.dueTold(x, 500, 0, 4000, 4516, 500);
        x.clear();
        x.fill(0, 500);
        x.limits(2, 2, 500);
        x.parse(1);
        // 1 and 1 bytes alone; a match takes 1, 1 and 4 bits
        Due.dueTold(x, 251, 249, 16 + 249 * 24, 16 + 18 + 249 * 6, 500);
        x.limits(16, 255, 500);
        x.parse(2);
        // 255 is told as 240 of class 7, 244 as 229 of class 7
        Due.dueTold(x, 3, 2, 8 + 2 * 24, 16 + 9 + 2 * (1 + 15 + 4), 500);
    }

    private static void pricesAsTheyWereThen() {
        Due.sentence("its price, by prices as they were then");
        for (int way = 0; way < 3; way++) {
            Counted x = Due.withText("abcdabcd");
            x.parse(way);
            Due.due("told(2)", x.told(2), 56);
            x.price(0, 3, 1000);
            x.price(1, 0, 1000);
            x.price(2, 2, 1000);
            x.price(3, 2, 1000);
            Due.due("told(2)", x.told(2), 56);
            x.at(0, 3);
            Due.due("told(2)", x.told(2), 56);
            Due.due("parse refused", x.parse(3), -1);
            Due.due("told(2)", x.told(2), 56);
            x.parse(way);
            Due.due("told(2)", x.told(2), 7000);
        }
    }

    private static void limitsAsTheyWereThen() {
        Due.sentence("the bits that it takes, by limits as they were then");
        for (int way = 0; way < 3; way++) {
            Counted x = Due.withText("abcdabcd");
            x.parse(way);
            // 4 by least 3 is told as 2, class 1
            Due.due("told(3)", x.told(3), 16 + 36 + 1 + 3 + 4 + 2);
            for (int least = 2; least <= 16; least++) {
                x.limits(least, 255, 500);
                Due.due("told(3)", x.told(3), 62);
            }
            x.limits(4, 255, 500);
            x.parse(way);
            Due.due("told(3)", x.told(3), 60);
            x.limits(2, 255, 500);
            Due.due("told(3)", x.told(3), 60);
        }
    }

    private static void textAsItWasThen() {
        Due.sentence("the bytes of its text");
        Counted x = new Counted();
        x.fill('a', 3);
        x.parse(0);
        x.fill('a', 400);
        Due.due("told(4)", x.told(4), 3);
        x.clear();
        Due.due("told(4)", x.told(4), 3);
        Due.dueRead(x, Due.bitsOf(1, 16) + Due.alone('r'), 0);
        Due.due("told(4)", x.told(4), 3);
    }
}
