import java.util.ArrayList;
import java.util.List;

/**
 * The document's words in the slowest and plainest way: every match is looked for byte by byte,
 * every parse's price is asked of all steps, bits are texts of 0 and 1.
 */
final class Model {
    private final List<Integer> text = new ArrayList<>();
    private final List<Integer> loaded = new ArrayList<>();
    private List<Integer> taken = null;
    private List<Integer> written = new ArrayList<>();
    private int least = 3;
    private int most = 64;
    private int window = 500;
    private final int[][] prices = {new int[8], new int[1], new int[8], new int[9]};
    private List<int[]> steps = null;
    private int parsedPrice;
    private String parsedBits = "";
    private int parsedSize;

    Model() {
        for (int[] row : prices) {
            java.util.Arrays.fill(row, 8);
        }
    }

    int type(long bytes, int n) {
        return addTo(text, bytes, n, 500);
    }

    int load(long bytes, int n) {
        return addTo(loaded, bytes, n, 700);
    }

    int fill(int value, int n) {
        if (n < 1 || text.size() + (long) n > 500) {
            return -1;
        }
        for (int k = 0; k < n; k++) {
            text.add(Math.floorMod(value, 256));
        }
        return text.size();
    }

    int clear() {
        int size = text.size();
        text.clear();
        return size;
    }

    int limits(int newLeast, int newMost, int newWindow) {
        if (newLeast < 2 || newLeast > 16 || newMost < newLeast || newMost > 255
            || newWindow < 1 || newWindow > 500) {
            return 0;
        }
        least = newLeast;
        most = newMost;
        window = newWindow;
        return 1;
    }

    int price(int what, int k, int v) {
        if (what < 0 || what > 3 || k < 0 || k >= prices[what].length || v < 1 || v > 1000) {
            return 0;
        }
        prices[what][k] = v;
        return 1;
    }

    int parse(int way) {
        if (way < 0 || way > 2) {
            return -1;
        }
        int[] from = leastPrices();
        steps = new ArrayList<>();
        parsedPrice = 0;
        parsedSize = text.size();
        StringBuilder bits = new StringBuilder(fixed(text.size(), 16));
        for (int place = 0; place < text.size();) {
            int[] step = way == 0 ? cheapestStep(place, from) : longestStep(place);
            if (way == 2 && longestLength(place) < longestLength(place + 1)) {
                step = alone(place);
            }
            steps.add(step);
            parsedPrice += priceOf(step);
            bits.append(bitsOf(step));
            place += step[1];
        }
        parsedBits = bits.toString();
        return steps.size();
    }

    int step(int i, int what) {
        if (steps == null || i < 0 || i >= steps.size() || what < 0 || what > 3) {
            return -1;
        }
        return steps.get(i)[what];
    }

    int told(int what) {
        if (what < 0 || what > 4) {
            return -1;
        }
        if (steps == null) {
            return 0;
        }
        if (what == 1) {
            int matches = 0;
            for (int[] step : steps) {
                matches += step[2] > 0 ? 1 : 0;
            }
            return matches;
        }
        return what == 0 ? steps.size() : what == 2 ? parsedPrice
            : what == 3 ? parsedBits.length() : parsedSize;
    }

    int at(int place, int what) {
        if (place < 0 || place > text.size() || what < 0 || what > 3
            || place == text.size() && what != 3) {
            return -1;
        }
        if (what == 3) {
            return leastPrices()[place];
        }
        if (what == 2) {
            int count = 0;
            for (int distance = 1; distance <= window; distance++) {
                count += isMatch(place, least, distance) ? 1 : 0;
            }
            return count;
        }
        int[] step = longestStep(place);
        return step[2] == 0 ? 0 : step[1 + what];
    }

    int write() {
        if (steps == null) {
            return 0;
        }
        StringBuilder bits = new StringBuilder(parsedBits);
        while (bits.length() % 8 != 0) {
            bits.append('0');
        }
        written = new ArrayList<>();
        for (int k = 0; k < bits.length(); k += 8) {
            written.add(Integer.parseInt(bits.substring(k, k + 8), 2));
        }
        return written.size();
    }

    int written(int k) {
        return k < 0 || k >= written.size() ? -1 : written.get(k);
    }

    int read() {
        StringBuilder bits = new StringBuilder();
        for (int value : loaded) {
            bits.append(fixed(value, 8));
        }
        loaded.clear();
        List<Integer> made = new ArrayList<>();
        int fault = readInto(made, bits.toString());
        if (fault == 0) {
            taken = made;
        }
        return fault;
    }

    int taken(int k) {
        if (taken == null) {
            return -1;
        }
        return k == -1 ? taken.size() : k < 0 || k >= taken.size() ? -1 : taken.get(k);
    }

    int check() {
        return 1;
    }

    private static int addTo(List<Integer> row, long bytes, int n, int room) {
        if (n < 1 || n > 8 || row.size() + n > room) {
            return -1;
        }
        for (int k = n; k >= 1; k--) {
            row.add((int) (bytes >> 8 * (k - 1) & 255));
        }
        return row.size();
    }

    private static int classOf(int number) {
        int halved = 0;
        for (int left = number; left != 1; left /= 2) {
            halved++;
        }
        return halved;
    }

    private boolean isMatch(int place, int length, int distance) {
        if (length < least || length > most || distance < 1 || distance > window
            || distance > place || place + length > text.size()) {
            return false;
        }
        for (int k = 0; k < length; k++) {
            if (text.get(place + k).intValue() != text.get(place + k - distance).intValue()) {
                return false;
            }
        }
        return true;
    }

    private int[] alone(int place) {
        return new int[] {place, 1, 0, text.get(place)};
    }

    private int priceOf(int[] step) {
        return step[2] == 0 ? prices[0][step[3] / 32]
            : prices[1][0] + prices[2][classOf(step[1])] + prices[3][classOf(step[2])];
    }

    /** All steps at a place, the longest first, of those the nearest first. */
    private List<int[]> allSteps(int place) {
        List<int[]> all = new ArrayList<>();
        for (int length = Math.min(most, text.size() - place); length >= least; length--) {
            for (int distance = 1; distance <= Math.min(window, place); distance++) {
                if (isMatch(place, length, distance)) {
                    all.add(new int[] {place, length, distance, -1});
                }
            }
        }
        all.add(alone(place));
        return all;
    }

    private int[] leastPrices() {
        int[] from = new int[text.size() + 1];
        for (int place = text.size() - 1; place >= 0; place--) {
            from[place] = Integer.MAX_VALUE;
            for (int[] step : allSteps(place)) {
                from[place] = Math.min(from[place], priceOf(step) + from[place + step[1]]);
            }
        }
        return from;
    }

    private int[] cheapestStep(int place, int[] from) {
        for (int[] step : allSteps(place)) {
            if (priceOf(step) + from[place + step[1]] == from[place]) {
                return step;
            }
        }
        return null;
    }

    private int[] longestStep(int place) {
        return allSteps(place).get(0);
    }

    private int longestLength(int place) {
        if (place >= text.size()) {
            return 0;
        }
        int[] step = longestStep(place);
        return step[2] == 0 ? 0 : step[1];
    }

    private static String fixed(int value, int n) {
        String bits = "0".repeat(n) + Integer.toBinaryString(value);
        return bits.substring(bits.length() - n);
    }

    private String bitsOf(int[] step) {
        if (step[2] == 0) {
            return "0" + fixed(step[3], 8);
        }
        String length = Integer.toBinaryString(step[1] - least + 1);
        String distance = Integer.toBinaryString(step[2]);
        return "1" + "0".repeat(length.length() - 1) + length
            + fixed(distance.length() - 1, 4) + distance.substring(1);
    }

    private int readInto(List<Integer> made, String bits) {
        if (bits.length() < 16) {
            return 1;
        }
        int size = Integer.parseInt(bits.substring(0, 16), 2);
        if (size > 500) {
            return 2;
        }
        int next = 16;
        while (made.size() < size) {
            if (next >= bits.length()) {
                return 1;
            }
            if (bits.charAt(next) == '0') {
                if (next + 9 > bits.length()) {
                    return 1;
                }
                made.add(Integer.parseInt(bits.substring(next + 1, next + 9), 2));
                next += 9;
                continue;
            }
            next++;
            if (bits.startsWith("000000000", next)) {
                return 3;
            }
            int one = bits.indexOf('1', next);
            int lengthEnd = one + (one - next) + 1;
            if (one < 0 || lengthEnd > bits.length()) {
                return 1;
            }
            int length = Integer.parseInt(bits.substring(one, lengthEnd), 2) + least - 1;
            if (length > most || made.size() + length > size) {
                return 3;
            }
            if (lengthEnd + 4 > bits.length()) {
                return 1;
            }
            int below = Integer.parseInt(bits.substring(lengthEnd, lengthEnd + 4), 2);
            next = lengthEnd + 4 + below;
            if (next > bits.length()) {
                return 1;
            }
            int distance = Integer.parseInt("1" + bits.substring(lengthEnd + 4, next), 2);
            if (distance > window || distance > made.size()) {
                return 4;
            }
            for (int k = 0; k < length; k++) {
                made.add(made.get(made.size() - distance));
            }
        }
        return bits.length() - next >= 8 || bits.indexOf('1', next) >= 0 ? 5 : 0;
    }
}
