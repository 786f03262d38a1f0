import java.util.Random;

/**
 * Promise 7, the words on every parse and on the greedy and the lazy way, looked at from outside:
 * of each step, whichever way it came, the text itself says what it may be.
 */
public final class Promise07ParseStepsTest {
    private static final int RUNS = 300;

    private final Counted x;
    private final String text;
    private final int[] limits;

    private Promise07ParseStepsTest(String text, int[] limits) {
        this.text = text;
        this.limits = limits;
        x = Due.withText(text);
        Due.due("limits", x.limits(limits[0], limits[1], limits[2]), 1);
    }

    public static void main(String[] args) {
        Random any = new Random(11);
        for (int run = 0; run < RUNS; run++) {
            Promise07ParseStepsTest test = some(any);
            for (int what = 0; what < 4; what++) {
                test.x.price(what, 0, 1 + any.nextInt(20));
            }
            for (int way = 0; way < 3; way++) {
                test.goesThroughTheText(way);
            }
        }
        Due.end();
    }

    private static Promise07ParseStepsTest some(Random any) {
        StringBuilder text = new StringBuilder();
        int letters = 1 + any.nextInt(4);
        for (int size = any.nextInt(letters == 1 ? 300 : 26); size > 0; size--) {
            text.append((char) ('a' + any.nextInt(letters)));
        }
        int least = 2 + any.nextInt(any.nextInt(4) == 0 ? 15 : 3);
        int most = least + any.nextInt(letters == 1 ? 256 - least : 9);
        int window = 1 + any.nextInt(any.nextBoolean() ? 500 : 12);
        if (letters == 1 && text.length() / most > 15) {
            text.setLength(15 * most);
        }
        return new Promise07ParseStepsTest(text.toString(), new int[] {least, most, window});
    }

    private void goesThroughTheText(int way) {
        Due.sentence("A PARSE goes through the text by STEPS: a byte alone, or a match");
        int steps = x.parse(way);
        int place = 0;
        for (int i = 0; i < steps; i++) {
            int length = x.step(i, 1);
            int distance = x.step(i, 2);
            Due.due("place of step " + i, x.step(i, 0), place);
            if (distance == 0) {
                Due.due("length of a byte alone", length, 1);
                Due.due("byte of step " + i, x.step(i, 3), text.charAt(place));
            } else {
                Due.due("a match of " + length + " at distance " + distance + ", place " + place
                    + " of " + text, isMatch(place, length, distance) ? 1 : 0, 1);
            }
            if (way != 0) {
                dueLongest(way, place, length, distance);
            }
            place += length;
        }
        Due.due("where way " + way + " ends", place, text.length());
    }

    private boolean isMatch(int place, int length, int distance) {
        return length >= limits[0] && length <= limits[1]
            && distance >= 1 && distance <= limits[2] && distance <= place
            && place + length <= text.length()
            && text.regionMatches(place, text, place - distance, length);
    }

    private void dueLongest(int way, int place, int length, int distance) {
        Due.sentence(way == 1 ? "at each place the longest match, the nearest of these"
            : "likewise, but a byte alone also where ..");
        int longest = longestAt(place);
        boolean waits = way == 2 && longest < longestAt(place + 1);
        Due.due("length at " + place + " of " + text, length, longest == 0 || waits ? 1 : longest);
        Due.due("distance at " + place + " of " + text, distance,
            waits ? 0 : nearestOf(place, longest));
    }

    private int longestAt(int place) {
        for (int length = limits[1]; length >= limits[0]; length--) {
            if (nearestOf(place, length) != 0) {
                return length;
            }
        }
        return 0;
    }

    private int nearestOf(int place, int length) {
        for (int distance = 1; distance <= place; distance++) {
            if (isMatch(place, length, distance)) {
                return distance;
            }
        }
        return 0;
    }
}
