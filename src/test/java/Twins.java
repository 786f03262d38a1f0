import java.util.ArrayList;
import java.util.List;
import java.util.function.Consumer;
import java.util.function.ToIntFunction;

/**
 * Where the document says that nothing is done, or that something stays: two objects are used
 * alike, one of them is asked the refused call too, and from then on both must answer alike.
 */
final class Twins {
    private static final int STEPS_SHOWN = 9;
    private static final int BYTES_SHOWN = 24;

    private Twins() {
    }

    /** As it is made. */
    static void fresh(Counted x) {
        Due.due("a new object's calls", x.calls(), 0);
    }

    /** With another text than that of its parse, another parse than the written one. */
    static void busy(Counted x) {
        Due.typeAll(x, "written first");
        x.parse(0);
        x.write();
        x.clear();
        Due.typeAll(x, "abcdabcdabcxabcd");
        x.limits(2, 6, 9);
        x.price(0, 3, 11);
        x.price(1, 0, 5);
        x.price(2, 2, 7);
        x.price(3, 3, 6);
        x.parse(2);
        x.type(Due.packed("dabcab"), 6);
        Due.dueRead(x, Due.bitsOf(2, 16) + Due.alone('p') + Due.alone('q'), 0);
        // a byte 0x80 is still missing
        Due.due("load", x.load(0x000152L, 3), 3);
    }

    /** With no room for a byte more, neither typed nor loaded. */
    static void full(Counted x) {
        Due.due("fill", x.fill('f', 500), 500);
        x.limits(3, 255, 400);
        x.parse(1);
        for (int size = 8; size <= 696; size += 8) {
            Due.due("load", x.load(0L, 8), size);
        }
        Due.due("load", x.load(0L, 4), 700);
    }

    /** In all three states the call answers so, and does nothing. */
    static void nothingDone(String call, int want, ToIntFunction<Counted> refused) {
        nothingDone(Twins::fresh, call, want, refused);
        nothingDone(Twins::busy, call, want, refused);
        nothingDone(Twins::full, call, want, refused);
    }

    static void nothingDone(Consumer<Counted> state, String call, int want,
            ToIntFunction<Counted> refused) {
        Counted asked = new Counted();
        Counted other = new Counted();
        state.accept(asked);
        state.accept(other);
        Due.due(call, refused.applyAsInt(asked), want);
        Due.due(call + " again", refused.applyAsInt(asked), want);
        dueAlike(call, asked, other);
    }

    /** All that can be seen of both, from now on. */
    static void dueAlike(String after, Counted one, Counted other) {
        List<String> got = shown(one);
        List<String> want = shown(other);
        Due.due("answers after " + after, got.size(), want.size());
        for (int k = 0; k < Math.min(got.size(), want.size()); k++) {
            boolean same = got.get(k).equals(want.get(k));
            Due.due("after " + after + " " + got.get(k) + ", without it " + want.get(k),
                same ? 1 : 0, 1);
        }
    }

    private static List<String> shown(Counted x) {
        List<String> answers = new ArrayList<>();
        showParse(x, answers);
        answers.add("check() " + x.check());
        showWritten(x, answers);
        showTaken(x, answers);
        for (int place = 0; place < BYTES_SHOWN; place++) {
            for (int what = 0; what < 4; what++) {
                answers.add("at(" + place + ", " + what + ") " + x.at(place, what));
            }
        }
        answers.add("at(500, 3) " + x.at(500, 3));
        answers.add("write() " + x.write());
        showWritten(x, answers);
        answers.add("load(128, 1) " + x.load(128L, 1));
        answers.add("read() " + x.read());
        showTaken(x, answers);
        for (int way = 0; way < 3; way++) {
            answers.add("parse(" + way + ") " + x.parse(way));
            showParse(x, answers);
        }
        answers.add("clear() " + x.clear());
        return answers;
    }

    private static void showParse(Counted x, List<String> answers) {
        for (int what = 0; what < 5; what++) {
            answers.add("told(" + what + ") " + x.told(what));
        }
        for (int i = 0; i < STEPS_SHOWN; i++) {
            for (int what = 0; what < 4; what++) {
                answers.add("step(" + i + ", " + what + ") " + x.step(i, what));
            }
        }
    }

    private static void showWritten(Counted x, List<String> answers) {
        for (int k = 0; k < BYTES_SHOWN; k++) {
            answers.add("written(" + k + ") " + x.written(k));
        }
    }

    private static void showTaken(Counted x, List<String> answers) {
        for (int k = -1; k < 4; k++) {
            answers.add("taken(" + k + ") " + x.taken(k));
        }
    }
}
