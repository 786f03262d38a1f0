/** Promise 4, at its boundaries. */
public final class Promise04ClearEdgesTest {
    private Promise04ClearEdgesTest() {
    }

    public static void main(String[] args) {
        howManyThereWere();
        noBytesAnyMore();
        emptyText();
        theLatestParseStays();
        onlyTheTextGoes();
        fullAgain();
        Due.end();
    }

    private static void howManyThereWere() {
        Due.sentence("how many there were");
        for (int size : new int[] {1, 2, 8, 255, 256, 499, 500}) {
            Counted x = new Counted();
            x.fill('a', size);
            Due.due("clear()", x.clear(), size);
            Due.due("clear() again", x.clear(), 0);
        }
    }

    private static void noBytesAnyMore() {
        Due.sentence("No bytes any more");
        Counted x = Due.withText("abcabcabc");
        Due.due("at(3, 0)", x.at(3, 0), 6);
        x.clear();
        for (int place = 0; place < 10; place++) {
            for (int what = 0; what < 4; what++) {
                Due.due("at(" + place + ", " + what + ")", x.at(place, what),
                    place == 0 && what == 3 ? 0 : -1);
            }
        }
        Due.due("parse(0)", x.parse(0), 0);
        Due.dueTold(x, 0, 0, 0, 16, 0);
        // what was there before is nothing that a match could begin in
        Due.typeAll(x, "abc");
        Due.due("at(0, 0)", x.at(0, 0), 0);
        Due.due("parse(1)", x.parse(1), 3);
    }

    private static void emptyText() {
        Due.sentence("No bytes any more");
        Twins.nothingDone(Twins::fresh, "clear() of no bytes", 0, Counted::clear);
        Counted x = Due.withText("abab");
        x.parse(0);
        x.clear();
        Due.due("clear()", x.clear(), 0);
        Due.dueTold(x, 4, 0, 32, 52, 4);
    }

    private static void theLatestParseStays() {
        Due.sentence("the latest parse stays");
        Counted x = new Counted();
        Twins.busy(x);
        int[] before = parseOf(x);
        Due.due("clear()", x.clear(), 22);
        dueParse(x, before);
        Due.due("check()", x.check(), 1);
        x.fill('z', 30);
        dueParse(x, before);
        Due.due("check()", x.check(), 1);
        x = new Counted();
        Twins.full(x);
        before = parseOf(x);
        Due.due("clear()", x.clear(), 500);
        dueParse(x, before);
    }

    private static int[] parseOf(Counted x) {
        int[] answers = new int[5 + 4 * 13];
        for (int k = 0; k < answers.length; k++) {
            answers[k] = k < 5 ? x.told(k) : x.step((k - 5) / 4, (k - 5) % 4);
        }
        return answers;
    }

    private static void dueParse(Counted x, int[] want) {
        int[] got = parseOf(x);
        for (int k = 0; k < want.length; k++) {
            Due.due("told and steps, answer " + k, got[k], want[k]);
        }
    }

    private static void onlyTheTextGoes() {
        Due.sentence("No bytes any more; the latest parse stays");
        Counted cleared = new Counted();
        Counted other = new Counted();
        Twins.busy(cleared);
        Twins.busy(other);
        Due.due("clear()", cleared.clear(), 22);
        Due.typeAll(cleared, "abcdabcdabcxabcddabcab");
        Twins.dueAlike("clear() and the same text again", cleared, other);
    }

    private static void fullAgain() {
        Due.sentence("No bytes any more");
        Counted x = new Counted();
        for (int k = 0; k < 5; k++) {
            Due.due("fill", x.fill('a' + k, 500), 500);
            Due.due("one more", x.fill('a', 1), -1);
            Due.due("clear()", x.clear(), 500);
        }
        Due.due("one too many", x.fill('a', 501), -1);
        Due.due("clear()", x.clear(), 0);
    }
}
