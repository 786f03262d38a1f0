/** Promise 16: the steps of the latest parse make its text. */
public final class Promise16CheckTest {
    private Promise16CheckTest() {
    }

    public static void main(String[] args) {
        Due.due("check() without a parse", new CheapParse().check(), 1);
        String[] texts = {"", "a", "aa", "aaaa", "abcabcabc", "abcd1abc2abcde",
            "how much wood would a woodchuck chuck if a woodchuck could chuck wood",
            "\u0000\u0000\u0000\u0000\u00ff\u00ff\u00ff\u00ff\u00ff", "ab".repeat(250)};
        for (String text : texts) {
            for (int way = 0; way < 3; way++) {
                CheapParse x = Due.withText(text);
                x.parse(way);
                Due.due("check()", x.check(), 1);
                x.limits(16, 16, 1);
                x.clear();
                x.fill('z', 7);
                Due.due("check() of the latest parse", x.check(), 1);
                stepsMake(x, text);
            }
        }
        Due.end();
    }

    /** What check() tells, seen from outside. */
    private static void stepsMake(CheapParse x, String text) {
        StringBuilder made = new StringBuilder();
        for (int i = 0; i < x.told(0) && i < 100; i++) {
            Due.due("place", x.step(i, 0), made.length());
            int distance = x.step(i, 2);
            for (int k = 0; k < x.step(i, 1); k++) {
                made.append(distance == 0 ? (char) x.step(i, 3)
                    : made.charAt(made.length() - distance));
            }
        }
        Due.due("the steps make the text", made.toString().equals(text) ? 1 : 0, 1);
    }
}
