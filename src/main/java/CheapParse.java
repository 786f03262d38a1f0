/**
 * Texts of bytes told by what came before: the cheapest way by prices of any kind, a greedy and
 * a lazy one; written in bits, and read again.
 */
public final class CheapParse {
    /** There is none, or nothing is done. */
    public static final int NONE = -1;

    private static final int TEXT_ROOM = 500;
    private static final int LOAD_ROOM = 700;
    /** A byte alone takes 9 bits, and no match takes more for each of its bytes. */
    private static final int WRITE_ROOM = (16 + 9 * TEXT_ROOM + 7) / 8;

    private static final int LEAST_FROM = 2;
    private static final int LEAST_TO = 16;
    private static final int MOST_TO = 255;
    private static final int PRICE_TO = 1000;
    private static final int FIRST_PRICE = 8;
    /** Dearer than any parse, and far enough from the end of int to be added to. */
    private static final int DEAR = 1000000000;

    private static final int BYTE_GROUPS = 8;
    private static final int LENGTH_CLASSES = 8;
    private static final int DISTANCE_CLASSES = 9;

    private static final int COUNT_BITS = 16;
    private static final int BYTE_BITS = 8;
    private static final int DISTANCE_CLASS_BITS = 4;
    private static final int ZEROS_TOO_MANY = 9;

    private static final int CHEAPEST = 0;
    private static final int GREEDY = 1;
    private static final int LAZY = 2;

    private static final int NO_FAULT = 0;
    private static final int BYTES_END = 1;
    private static final int TEXT_TOO_LONG = 2;
    private static final int BAD_LENGTH = 3;
    private static final int BAD_DISTANCE = 4;
    private static final int MORE_BEHIND = 5;

    private final Bytes text;
    private final Bytes loaded;
    private final Bytes lastRead;
    /** What is made anew to be looked at; it holds nothing from one call to the next. */
    private final Bytes scratch;
    private final Rules rules;
    private final Tariff tariff;
    private final Matches matches;
    private final Costs costs;
    private final Steps latest;
    private final BitWriter writer;
    private final Reader reader;
    private boolean matchesStale;
    private boolean costsStale;
    private boolean anyRead;

    public CheapParse() {
        text = new Bytes(TEXT_ROOM);
        loaded = new Bytes(LOAD_ROOM);
        lastRead = new Bytes(TEXT_ROOM);
        scratch = new Bytes(TEXT_ROOM);
        rules = new Rules();
        tariff = new Tariff();
        matches = new Matches(text, rules);
        costs = new Costs(text, rules, tariff, matches);
        latest = new Steps();
        writer = new BitWriter();
        reader = new Reader(loaded, rules, scratch);
        matchesStale = true;
        costsStale = true;
        anyRead = false;
    }

    public int type(long bytes, int n) {
        int size = text.addLowest(bytes, n);
        if (size != NONE) {
            forgetMatches();
        }
        return size;
    }

    public int fill(int value, int n) {
        int size = text.addTimes(value, n);
        if (size != NONE) {
            forgetMatches();
        }
        return size;
    }

    public int clear() {
        int size = text.size();
        text.empty();
        forgetMatches();
        return size;
    }

    public int limits(int least, int most, int window) {
        if (!rules.change(least, most, window)) {
            return 0;
        }
        forgetMatches();
        return 1;
    }

    public int price(int what, int k, int v) {
        if (!tariff.change(what, k, v)) {
            return 0;
        }
        costsStale = true;
        return 1;
    }

    public int parse(int way) {
        if (way != CHEAPEST && way != GREEDY && way != LAZY) {
            return NONE;
        }
        if (way == CHEAPEST) {
            renewCosts();
        } else {
            renewMatches();
        }
        latest.begin(text, rules.least());
        int place = 0;
        for (int i = 0; i < TEXT_ROOM && place < text.size(); i++) {
            place += addStep(way, place);
        }
        return latest.count();
    }

    public int step(int i, int what) {
        if (!latest.has(i)) {
            return NONE;
        }
        switch (what) {
            case 0:
                return latest.placeOf(i);
            case 1:
                return latest.lengthOf(i);
            case 2:
                return latest.distanceOf(i);
            case 3:
                return latest.byteOf(i);
            default:
                return NONE;
        }
    }

    public int told(int what) {
        switch (what) {
            case 0:
                return latest.count();
            case 1:
                return latest.matchCount();
            case 2:
                return latest.wholePrice();
            case 3:
                return latest.bits();
            case 4:
                return latest.textSize();
            default:
                return NONE;
        }
    }

    public int at(int place, int what) {
        if (place < 0 || place > text.size()) {
            return NONE;
        }
        if (what == 3) {
            renewCosts();
            return costs.leastFrom(place);
        }
        if (place == text.size()) {
            return NONE;
        }
        renewMatches();
        switch (what) {
            case 0:
                return matches.longestAt(place);
            case 1:
                return matches.nearestAt(place);
            case 2:
                return matches.distancesAt(place);
            default:
                return NONE;
        }
    }

    public int write() {
        if (!latest.made()) {
            return 0;
        }
        latest.putInto(writer);
        return writer.size();
    }

    public int written(int k) {
        return writer.get(k);
    }

    public int load(long bytes, int n) {
        return loaded.addLowest(bytes, n);
    }

    public int read() {
        int fault = reader.readText();
        loaded.empty();
        if (fault == NO_FAULT) {
            lastRead.copyOf(scratch);
            anyRead = true;
        }
        return fault;
    }

    public int taken(int k) {
        if (!anyRead) {
            return NONE;
        }
        return k == NONE ? lastRead.size() : lastRead.get(k);
    }

    public int check() {
        return latest.makeTheirText(scratch) ? 1 : 0;
    }

    private void forgetMatches() {
        matchesStale = true;
        costsStale = true;
    }

    private void renewMatches() {
        if (matchesStale) {
            matches.build();
            matchesStale = false;
        }
    }

    private void renewCosts() {
        renewMatches();
        if (costsStale) {
            costs.build();
            costsStale = false;
        }
    }

    /** Adds the step that this way takes at the place, and answers its length. */
    private int addStep(int way, int place) {
        int length = way == CHEAPEST ? costs.lengthAt(place) : longestStep(way, place);
        if (length <= 1) {
            latest.addByte(place, tariff.ofByte(text.get(place)));
            return 1;
        }
        int distance = way == CHEAPEST ? costs.distanceAt(place) : matches.nearestAt(place);
        latest.addMatch(place, length, distance, tariff.ofMatch(length, distance));
        return length;
    }

    private int longestStep(int way, int place) {
        int longest = matches.longestAt(place);
        boolean waits = way == LAZY && longest < matches.longestAt(place + 1);
        return waits ? 1 : longest;
    }

    /** How often a number from 1 on can be halved until it is 1. */
    private static int classOf(int number) {
        int halvings = 0;
        for (int i = 1; i < 31 && (number >> i) > 0; i++) {
            halvings = i;
        }
        return halvings;
    }

    /** A row of bytes that grows as far as its room goes. */
    private static final class Bytes {
        private final int[] row;
        private int size;

        Bytes(int room) {
            row = new int[room];
            size = 0;
        }

        int size() {
            return size;
        }

        int get(int k) {
            return k >= 0 && k < size ? row[k] : NONE;
        }

        void empty() {
            size = 0;
        }

        void add(int value) {
            if (size < row.length) {
                row[size] = value & 255;
                size++;
            }
        }

        int addLowest(long bytes, int n) {
            if (n < 1 || n > 8 || n > row.length - size) {
                return NONE;
            }
            for (int k = n - 1; k >= 0; k--) {
                add((int) (bytes >>> (8 * k)));
            }
            return size;
        }

        int addTimes(int value, int n) {
            if (n < 1 || n > row.length - size) {
                return NONE;
            }
            for (int k = 0; k < n; k++) {
                add(value);
            }
            return size;
        }

        /** Byte by byte, as a match may go on into what it makes itself. */
        void addAgain(int distance, int length) {
            for (int k = 0; k < length; k++) {
                add(get(size - distance));
            }
        }

        void copyOf(Bytes other) {
            size = Math.min(other.size, row.length);
            System.arraycopy(other.row, 0, row, 0, size);
        }

        boolean sameAs(Bytes other) {
            if (size != other.size) {
                return false;
            }
            for (int k = 0; k < size; k++) {
                if (row[k] != other.row[k]) {
                    return false;
                }
            }
            return true;
        }

        boolean repeats(int place, int distance, int length) {
            if (distance < 1 || distance > place || length > size - place) {
                return false;
            }
            for (int k = place; k < place + length; k++) {
                if (row[k] != row[k - distance]) {
                    return false;
                }
            }
            return true;
        }
    }

    /** The limits of matches. */
    private static final class Rules {
        private int least;
        private int most;
        private int window;

        Rules() {
            least = 3;
            most = 64;
            window = TEXT_ROOM;
        }

        int least() {
            return least;
        }

        int most() {
            return most;
        }

        int window() {
            return window;
        }

        boolean change(int newLeast, int newMost, int newWindow) {
            boolean fit = newLeast >= LEAST_FROM && newLeast <= LEAST_TO
                && newMost >= newLeast && newMost <= MOST_TO
                && newWindow >= 1 && newWindow <= TEXT_ROOM;
            if (fit) {
                least = newLeast;
                most = newMost;
                window = newWindow;
            }
            return fit;
        }
    }

    /** The prices. */
    private static final class Tariff {
        private final int[] bytes;
        private final int[] allMatches;
        private final int[] lengths;
        private final int[] distances;

        Tariff() {
            bytes = firstPrices(BYTE_GROUPS);
            allMatches = firstPrices(1);
            lengths = firstPrices(LENGTH_CLASSES);
            distances = firstPrices(DISTANCE_CLASSES);
        }

        boolean change(int what, int k, int v) {
            int[] row = rowOf(what);
            if (row == null || k < 0 || k >= row.length || v < 1 || v > PRICE_TO) {
                return false;
            }
            row[k] = v;
            return true;
        }

        int ofByte(int value) {
            return bytes[(value & 255) / 32];
        }

        int ofMatch(int length, int distance) {
            return ofLength(length) + ofDistanceClass(classOf(distance));
        }

        /** What all matches of this length pay, whatever their distance. */
        int ofLength(int length) {
            return allMatches[0] + lengths[Math.min(classOf(length), LENGTH_CLASSES - 1)];
        }

        int ofDistanceClass(int distanceClass) {
            return distances[Math.min(distanceClass, DISTANCE_CLASSES - 1)];
        }

        private int[] rowOf(int what) {
            switch (what) {
                case 0:
                    return bytes;
                case 1:
                    return allMatches;
                case 2:
                    return lengths;
                case 3:
                    return distances;
                default:
                    return null;
            }
        }

        private static int[] firstPrices(int n) {
            int[] row = new int[n];
            for (int k = 0; k < n; k++) {
                row[k] = FIRST_PRICE;
            }
            return row;
        }
    }

    /** The matches at every place of the text, by the limits alone. */
    private static final class Matches {
        private final Bytes text;
        private final Rules rules;
        private final int[] longest;
        private final int[] nearest;
        private final int[] distances;
        /** The longest match of each class of distances at each place. */
        private final int[] reach;
        /** How many bytes are the same as those so many places before, for the place in hand. */
        private final int[] same;

        Matches(Bytes text, Rules rules) {
            this.text = text;
            this.rules = rules;
            longest = new int[TEXT_ROOM];
            nearest = new int[TEXT_ROOM];
            distances = new int[TEXT_ROOM];
            reach = new int[TEXT_ROOM * DISTANCE_CLASSES];
            same = new int[TEXT_ROOM + 1];
        }

        void build() {
            for (int distance = 0; distance <= TEXT_ROOM; distance++) {
                same[distance] = 0;
            }
            for (int place = text.size() - 1; place >= 0; place--) {
                longest[place] = 0;
                nearest[place] = 0;
                distances[place] = 0;
                for (int c = 0; c < DISTANCE_CLASSES; c++) {
                    noteClass(place, c);
                }
            }
        }

        int longestAt(int place) {
            return place >= 0 && place < text.size() ? longest[place] : 0;
        }

        int nearestAt(int place) {
            return place >= 0 && place < text.size() ? nearest[place] : 0;
        }

        int distancesAt(int place) {
            return place >= 0 && place < text.size() ? distances[place] : 0;
        }

        int reachAt(int place, int distanceClass) {
            return reach[place * DISTANCE_CLASSES + distanceClass];
        }

        int nearestOfClass(int place, int length, int distanceClass) {
            int last = lastOfClass(place, distanceClass);
            for (int distance = 1 << distanceClass; distance <= last; distance++) {
                if (text.repeats(place, distance, length)) {
                    return distance;
                }
            }
            return 0;
        }

        private int lastOfClass(int place, int distanceClass) {
            int farthest = Math.min(place, rules.window());
            return Math.min((2 << distanceClass) - 1, farthest);
        }

        /** What is the same one place on goes on here, if this byte is the same too. */
        private void noteClass(int place, int distanceClass) {
            int[] row = text.row;
            int value = row[place];
            int least = rules.least();
            int last = lastOfClass(place, distanceClass);
            int classLongest = 0;
            for (int distance = 1 << distanceClass; distance <= last; distance++) {
                int length = row[place - distance] == value ? same[distance] + 1 : 0;
                same[distance] = length;
                if (length >= least) {
                    classLongest = Math.max(classLongest, noteMatch(place, distance, length));
                }
            }
            reach[place * DISTANCE_CLASSES + distanceClass] = classLongest;
        }

        /** Distances come from the nearest on, so that of equally long ones the nearest stays. */
        private int noteMatch(int place, int distance, int sameBytes) {
            int length = Math.min(sameBytes, rules.most());
            distances[place]++;
            if (length > longest[place]) {
                longest[place] = length;
                nearest[place] = distance;
            }
            return length;
        }
    }

    /** The least price from every place of the text on, and the step that goes on so cheaply. */
    private static final class Costs {
        private final Bytes text;
        private final Rules rules;
        private final Tariff tariff;
        private final Matches matches;
        private final int[] least;
        private final int[] stepLength;
        private final int[] stepDistancePrice;
        /** By length: what matches of it pay beside their distance. */
        private final int[] lengthPrice;
        /** By length, for the place in hand: the cheapest distance that reaches just as far. */
        private final int[] priceByReach;

        Costs(Bytes text, Rules rules, Tariff tariff, Matches matches) {
            this.text = text;
            this.rules = rules;
            this.tariff = tariff;
            this.matches = matches;
            least = new int[TEXT_ROOM + 1];
            stepLength = new int[TEXT_ROOM];
            stepDistancePrice = new int[TEXT_ROOM];
            lengthPrice = new int[MOST_TO + 1];
            priceByReach = new int[MOST_TO + 1];
        }

        /** The matches are those of the text and the limits as they are now. */
        void build() {
            for (int length = rules.least(); length <= rules.most(); length++) {
                lengthPrice[length] = tariff.ofLength(length);
            }
            least[text.size()] = 0;
            for (int place = text.size() - 1; place >= 0; place--) {
                chooseStep(place);
            }
        }

        int leastFrom(int place) {
            return place >= 0 && place <= text.size() ? least[place] : NONE;
        }

        int lengthAt(int place) {
            return place >= 0 && place < text.size() ? stepLength[place] : 0;
        }

        /** The nearest distance that is as cheap: a nearer one may be dearer by its class. */
        int distanceAt(int place) {
            int length = lengthAt(place);
            if (length <= 1) {
                return 0;
            }
            for (int c = 0; c < DISTANCE_CLASSES; c++) {
                if (tariff.ofDistanceClass(c) == stepDistancePrice[place]
                    && matches.reachAt(place, c) >= length) {
                    return matches.nearestOfClass(place, length, c);
                }
            }
            return 0;
        }

        /** From the longest step down, so that of equally cheap ones the longest stays. */
        private void chooseStep(int place) {
            int longest = matches.longestAt(place);
            sortByReach(place, longest);
            int best = DEAR;
            int bestLength = 1;
            int bestDistancePrice = 0;
            int distancePrice = DEAR;
            for (int length = longest; length >= rules.least(); length--) {
                distancePrice = Math.min(distancePrice, priceByReach[length]);
                int cost = lengthPrice[length] + distancePrice + least[place + length];
                if (cost < best) {
                    best = cost;
                    bestLength = length;
                    bestDistancePrice = distancePrice;
                }
            }
            int alone = tariff.ofByte(text.get(place)) + least[place + 1];
            if (alone < best) {
                best = alone;
                bestLength = 1;
                bestDistancePrice = 0;
            }
            least[place] = best;
            stepLength[place] = bestLength;
            stepDistancePrice[place] = bestDistancePrice;
        }

        private void sortByReach(int place, int longest) {
            for (int length = 0; length <= longest; length++) {
                priceByReach[length] = DEAR;
            }
            for (int c = 0; c < DISTANCE_CLASSES; c++) {
                int length = matches.reachAt(place, c);
                priceByReach[length] = Math.min(priceByReach[length], tariff.ofDistanceClass(c));
            }
        }
    }

    /** The latest parse, with its text and the least length as they were then. */
    private static final class Steps {
        private final Bytes text;
        private final int[] places;
        private final int[] lengths;
        private final int[] distances;
        private int least;
        private int count;
        private int matchCount;
        private int wholePrice;
        private int bits;
        private boolean made;

        Steps() {
            text = new Bytes(TEXT_ROOM);
            places = new int[TEXT_ROOM];
            lengths = new int[TEXT_ROOM];
            distances = new int[TEXT_ROOM];
            least = 0;
            count = 0;
            matchCount = 0;
            wholePrice = 0;
            bits = 0;
            made = false;
        }

        void begin(Bytes newText, int newLeast) {
            text.copyOf(newText);
            least = newLeast;
            count = 0;
            matchCount = 0;
            wholePrice = 0;
            bits = COUNT_BITS;
            made = true;
        }

        void addByte(int place, int price) {
            addOne(place, 1, 0, price);
            bits += 1 + BYTE_BITS;
        }

        void addMatch(int place, int length, int distance, int price) {
            addOne(place, length, distance, price);
            matchCount++;
            bits += 1 + lengthBits(length) + DISTANCE_CLASS_BITS + classOf(distance);
        }

        boolean made() {
            return made;
        }

        int count() {
            return count;
        }

        int matchCount() {
            return matchCount;
        }

        int wholePrice() {
            return wholePrice;
        }

        int bits() {
            return bits;
        }

        int textSize() {
            return text.size();
        }

        boolean has(int i) {
            return i >= 0 && i < count;
        }

        int placeOf(int i) {
            return has(i) ? places[i] : NONE;
        }

        int lengthOf(int i) {
            return has(i) ? lengths[i] : NONE;
        }

        int distanceOf(int i) {
            return has(i) ? distances[i] : NONE;
        }

        int byteOf(int i) {
            return has(i) && distances[i] == 0 ? text.get(places[i]) : NONE;
        }

        void putInto(BitWriter writer) {
            writer.begin();
            writer.put(text.size(), COUNT_BITS);
            for (int i = 0; i < count; i++) {
                if (distances[i] == 0) {
                    writer.put(0, 1);
                    writer.put(byteOf(i), BYTE_BITS);
                } else {
                    putMatch(writer, lengths[i], distances[i]);
                }
            }
        }

        boolean makeTheirText(Bytes made) {
            made.empty();
            for (int i = 0; i < count; i++) {
                if (places[i] != made.size()) {
                    return false;
                }
                if (distances[i] == 0) {
                    made.add(byteOf(i));
                } else {
                    made.addAgain(distances[i], lengths[i]);
                }
            }
            return made.sameAs(text);
        }

        private void addOne(int place, int length, int distance, int price) {
            if (count < TEXT_ROOM) {
                places[count] = place;
                lengths[count] = length;
                distances[count] = distance;
                count++;
                wholePrice += price;
            }
        }

        private int lengthTold(int length) {
            return length - least + 1;
        }

        private int lengthBits(int length) {
            return 2 * classOf(lengthTold(length)) + 1;
        }

        private void putMatch(BitWriter writer, int length, int distance) {
            writer.put(1, 1);
            // as many 0 as its class stand before the highest 1 of itself, told in so many bits
            writer.put(lengthTold(length), lengthBits(length));
            int distanceClass = classOf(distance);
            writer.put(distanceClass, DISTANCE_CLASS_BITS);
            writer.put(distance, distanceClass);
        }
    }

    /** Bits put into bytes, the highest first. */
    private static final class BitWriter {
        private final int[] row;
        private int bits;

        BitWriter() {
            row = new int[WRITE_ROOM];
            bits = 0;
        }

        void begin() {
            bits = 0;
        }

        int size() {
            return (bits + 7) / 8;
        }

        int get(int k) {
            return k >= 0 && k < size() ? row[k] : NONE;
        }

        /** The n lowest bits of the value. */
        void put(int value, int n) {
            for (int k = n - 1; k >= 0; k--) {
                putBit((value >> k) & 1);
            }
        }

        private void putBit(int bit) {
            int k = bits / 8;
            if (k >= row.length) {
                return;
            }
            if (bits % 8 == 0) {
                row[k] = 0;
            }
            row[k] |= bit << (7 - bits % 8);
            bits++;
        }
    }

    /** Makes a text of loaded bytes, or tells the first fault that it meets in them. */
    private static final class Reader {
        private final Bytes source;
        private final Rules rules;
        private final Bytes made;
        private int bits;

        Reader(Bytes source, Rules rules, Bytes made) {
            this.source = source;
            this.rules = rules;
            this.made = made;
            bits = 0;
        }

        int readText() {
            bits = 0;
            made.empty();
            int size = number(COUNT_BITS);
            if (size == NONE) {
                return BYTES_END;
            }
            if (size > TEXT_ROOM) {
                return TEXT_TOO_LONG;
            }
            for (int i = 0; i < TEXT_ROOM && made.size() < size; i++) {
                int fault = readStep(size);
                if (fault != NO_FAULT) {
                    return fault;
                }
            }
            return faultBehind();
        }

        private int readStep(int size) {
            int kind = number(1);
            if (kind == NONE) {
                return BYTES_END;
            }
            return kind == 0 ? readByte() : readMatch(size);
        }

        private int readByte() {
            int value = number(BYTE_BITS);
            if (value == NONE) {
                return BYTES_END;
            }
            made.add(value);
            return NO_FAULT;
        }

        private int readMatch(int size) {
            int zeros = countZeros();
            if (zeros == ZEROS_TOO_MANY) {
                return BAD_LENGTH;
            }
            int told = numberOfClass(zeros);
            if (told == NONE) {
                return BYTES_END;
            }
            int length = told - 1 + rules.least();
            if (length > rules.most() || length > size - made.size()) {
                return BAD_LENGTH;
            }
            int distance = numberOfClass(number(DISTANCE_CLASS_BITS));
            if (distance == NONE) {
                return BYTES_END;
            }
            if (distance > rules.window() || distance > made.size()) {
                return BAD_DISTANCE;
            }
            made.addAgain(distance, length);
            return NO_FAULT;
        }

        /** The 0s before the next 1, which is passed too; NONE when the bytes end before it. */
        private int countZeros() {
            for (int zeros = 0; zeros < ZEROS_TOO_MANY; zeros++) {
                int bit = number(1);
                if (bit != 0) {
                    return bit == NONE ? NONE : zeros;
                }
            }
            return ZEROS_TOO_MANY;
        }

        /** The number whose bits below the highest 1 come next; NONE also without a class. */
        private int numberOfClass(int itsClass) {
            if (itsClass == NONE) {
                return NONE;
            }
            int below = number(itsClass);
            return below == NONE ? NONE : (1 << itsClass) + below;
        }

        /** The next n bits; NONE when the bytes end before. */
        private int number(int n) {
            int value = 0;
            for (int k = 0; k < n; k++) {
                int holder = source.get(bits / 8);
                if (holder == NONE) {
                    return NONE;
                }
                value = 2 * value + ((holder >> (7 - bits % 8)) & 1);
                bits++;
            }
            return value;
        }

        private int faultBehind() {
            int inLastByte = (8 - bits % 8) % 8;
            if (number(inLastByte) != 0 || bits / 8 != source.size()) {
                return MORE_BEHIND;
            }
            return NO_FAULT;
        }
    }
}
