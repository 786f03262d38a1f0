/** Promise 16: the steps of the latest parse make its text. */
public final class Promise16CheckTest {
    private Promise16CheckTest() {
    }

    public static void main(String[] args) {
        Due.due("check() without a parse", new Counted().check(), 1);
        String[] texts = {"", "a", "aa", "aaaa", "abcabcabc", "abcd1abc2abcde",
            "how much wood would a woodchuck chuck if a woodchuck could chuck wood",
            "\u0000\u0000\u0000\u0000\u00ff\u00ff\u00ff\u00ff\u00ff", "ab".repeat(250)};
        for (String text : texts) {
            for (int way = 0; way < 3; way++) {
                Counted x = Due.withText(text);
                x.parse(way);
                Due.due("check()", x.check(), 1);
                x.limits(16, 16, 1);
                x.clear();
                x.fill('z', 7);
                Due.due("check() of the latest parse", x.check(), 1);
                stepsMake(x, text);
            }
        }
        Due.end();
    }

    /** What check() tells, seen from outside. */
    private static void stepsMake(Counted x, String text) {
        StringBuilder made = new StringBuilder();
        int steps = x.told(0);
        for (int i = 0; i < steps; i++) {
            Due.due("place", x.step(i, 0), made.length());
            int length = x.step(i, 1);
            int distance = x.step(i, 2);
            int value = x.step(i, 3);
            for (int k = 0; k < length; k++) {
                made.append(distance == 0 ? (char) value
                    : made.charAt(made.length() - distance));
            }
        }
        Due.due("the steps make the text", made.toString().equals(text) ? 1 : 0, 1);
    }
}
