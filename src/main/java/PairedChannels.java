/**
 * Channels that are paired again and again, until some are sure: a message is put on the surest
 * places of a word, the word is sent, noise changes what is received, and the word is read place
 * by place, with several readings at once.
 */
public final class PairedChannels {
    public static final int NONE = -1;

    private static final int MAX_PLACES = 16;
    private static final int MAX_PATHS = 4;
    private static final int MAX_SAVED = 6;
    private static final int MAX_TEXT = 60;
    private static final int MAX_VALUE = 99;
    private static final int MILLION = 1000000;
    private static final int HEARD_BASE = 10000;
    private static final int VALUE_BASE = 100;
    private static final int DIGEST_START = 2797;

    private static final int NOISE = 0;
    private static final int PATHS = 1;
    private static final int CHECKS = 2;
    private static final int STRENGTH = 3;
    private static final int SETTINGS = 4;
    private static final int[] LEAST_SETTING = {1, 1, 0, 1};
    private static final int[] MOST_SETTING = {999, 4, 3, 99};

    /** For each of the steps 1, 2, 4, 8 the places p with p / step even, as a mask. */
    private static final int[] FORMER_PLACES = {0x5555, 0x3333, 0x0F0F, 0x00FF};

    private final Word now = new Word();
    private final Word[] saved = new Word[MAX_SAVED];
    private int oldestSaved;
    private int savedStates;
    private final ValuesText text = new ValuesText();
    private final int[] rolled = new int[MAX_PLACES];
    private final Reading reading = new Reading();
    private boolean readingIsFresh;
    private final Reading trial = new Reading();

    public PairedChannels() {
        for (int i = 0; i < MAX_SAVED; i++) {
            saved[i] = new Word();
        }
    }

    // ---- places

    public int begin(int k) throws IllegalArgumentException {
        if (k < 1 || k > 4) {
            throw new IllegalArgumentException("k is not 1 to 4");
        }
        save();
        now.places = 1 << k;
        now.openMask = 0;
        for (int p = 0; p < MAX_PLACES; p++) {
            now.values[p] = 0;
        }
        return now.places;
    }

    public int open(int many) throws IllegalArgumentException, IllegalStateException {
        if (many < 0 || many > MAX_PLACES) {
            throw new IllegalArgumentException("many is not 0 to 16");
        }
        if (many > now.places) {
            throw new IllegalStateException("there are not so many places");
        }
        save();
        int mask = 0;
        for (int p = 0; p < now.places; p++) {
            if (now.sureRank(p) < many) {
                mask |= 1 << p;
            }
        }
        now.openMask = mask;
        return mask;
    }

    public int toggle(int place) throws IndexOutOfBoundsException {
        if (!now.hasPlace(place)) {
            throw new IndexOutOfBoundsException("there is no such place");
        }
        save();
        now.openMask ^= 1 << place;
        return now.isOpen(place) ? 1 : 0;
    }

    public int set(int setting, int value)
            throws IndexOutOfBoundsException, IllegalArgumentException {
        if (setting < 0 || setting >= SETTINGS) {
            throw new IndexOutOfBoundsException("there is no such setting");
        }
        if (value < LEAST_SETTING[setting] || value > MOST_SETTING[setting]) {
            throw new IllegalArgumentException("value is out of range");
        }
        save();
        int previous = now.settings[setting];
        now.settings[setting] = value;
        return previous;
    }

    // ---- sending, noise

    public int send(int body) throws IllegalArgumentException {
        if (!now.hasRoomFor(body)) {
            throw new IllegalArgumentException("there is no such body");
        }
        save();
        int word = now.wordOf(now.withChecks(body));
        int strength = now.settings[STRENGTH];
        for (int p = 0; p < now.places; p++) {
            now.values[p] = (word >> p & 1) == 1 ? -strength : strength;
        }
        return word;
    }

    public int receive(int place, int value)
            throws IndexOutOfBoundsException, IllegalArgumentException {
        if (!now.hasPlace(place)) {
            throw new IndexOutOfBoundsException("there is no such place");
        }
        if (value < -MAX_VALUE || value > MAX_VALUE) {
            throw new IllegalArgumentException("value is not -99 to 99");
        }
        save();
        int previous = now.values[place];
        now.values[place] = value;
        boolean isAsBefore = previous > 0 == value > 0 && previous < 0 == value < 0;
        return isAsBefore ? 0 : 1;
    }

    public int flip(int place) throws IndexOutOfBoundsException {
        if (!now.hasPlace(place)) {
            throw new IndexOutOfBoundsException("there is no such place");
        }
        save();
        now.values[place] = -now.values[place];
        return Math.abs(now.values[place]);
    }

    public int roll(int by) throws IllegalArgumentException {
        if (by < 0 || by >= now.places) {
            throw new IllegalArgumentException("by is out of range");
        }
        save();
        for (int p = 0; p < now.places; p++) {
            int to = p + by < now.places ? p + by : p + by - now.places;
            rolled[to] = now.values[p];
        }
        int changed = 0;
        for (int p = 0; p < now.places; p++) {
            changed += rolled[p] == now.values[p] ? 0 : 1;
            now.values[p] = rolled[p];
        }
        return changed;
    }

    // ---- texts

    public int append(int code) throws IllegalArgumentException, IllegalStateException {
        if (code < 33 || code > 126) {
            throw new IllegalArgumentException("code is not 33 to 126");
        }
        if (text.length >= MAX_TEXT) {
            throw new IllegalStateException("the buffer is full");
        }
        text.signs[text.length] = (char) code;
        text.length++;
        return text.length;
    }

    public int clearBuffer() {
        int length = text.length;
        text.length = 0;
        return length;
    }

    public int firstError() {
        return text.scan();
    }

    public int receiveAll() throws IllegalArgumentException, IllegalStateException {
        if (text.scan() < text.length || !text.endsWithValue()) {
            throw new IllegalArgumentException("the buffer does not tell values");
        }
        if (text.told > now.places) {
            throw new IllegalStateException("there are more values than places");
        }
        save();
        for (int p = 0; p < now.places; p++) {
            now.values[p] = p < text.told ? text.values[p] : 0;
        }
        text.length = 0;
        return text.told;
    }

    public int undo() throws IllegalStateException {
        if (savedStates <= 0) {
            throw new IllegalStateException("there is no saved state");
        }
        savedStates--;
        now.copyFrom(saved[(oldestSaved + savedStates) % MAX_SAVED]);
        readingIsFresh = false;
        return savedStates;
    }

    // ---- looks; nothing is changed

    public int place(int place, int what)
            throws IndexOutOfBoundsException, IllegalArgumentException {
        if (!now.hasPlace(place)) {
            throw new IndexOutOfBoundsException("there is no such place");
        }
        switch (what) {
            case 0:
                return now.isOpen(place) ? 1 : 0;
            case 1:
                return now.unsureness(place);
            case 2:
                return now.sureRank(place);
            case 3:
                return now.values[place] + VALUE_BASE;
            case 4:
                return now.isOpen(place) ? now.openPlacesBefore(place) : NONE;
            case 5:
                return now.isForCheckBit(place) ? 1 : 0;
            default:
                throw new IllegalArgumentException("what is not 0 to 5");
        }
    }

    public int code(int bits) throws IllegalArgumentException {
        if (bits < 0 || bits > 65535) {
            throw new IllegalArgumentException("bits is not 0 to 65535");
        }
        return coded(bits, now.places);
    }

    public int word(int body) throws IllegalArgumentException {
        if (!now.hasRoomFor(body)) {
            throw new IllegalArgumentException("there is no such body");
        }
        return now.wordOf(now.withChecks(body));
    }

    public int read(int what) throws IllegalArgumentException {
        if (what < 0 || what > 4) {
            throw new IllegalArgumentException("what is not 0 to 4");
        }
        Reading current = currentReading();
        int rank = current.rankRead;
        if (rank < 0 || rank >= MAX_PATHS) {
            return NONE;
        }
        int message = current.messages[rank];
        switch (what) {
            case 0:
                return message;
            case 1:
                return now.bodyOf(message);
            case 2:
                return rank;
            case 3:
                return current.penalties[rank];
            default:
                return now.differences(now.wordOf(message));
        }
    }

    public int path(int rank, int what) throws IllegalArgumentException {
        if (rank < 0 || what < 0 || what > 2) {
            throw new IllegalArgumentException("rank is below 0, or what is not 0 to 2");
        }
        Reading current = currentReading();
        if (rank >= current.paths || rank >= MAX_PATHS) {
            return NONE;
        }
        switch (what) {
            case 0:
                return current.messages[rank];
            case 1:
                return current.penalties[rank];
            default:
                return current.isRight[rank] ? 1 : 0;
        }
    }

    public int heard(int place) throws IndexOutOfBoundsException {
        if (!now.hasPlace(place)) {
            throw new IndexOutOfBoundsException("there is no such place");
        }
        return currentReading().heardByFirst(place) + HEARD_BASE;
    }

    public int count(int what) throws IllegalArgumentException {
        switch (what) {
            case 0:
                return now.places;
            case 1:
                return now.openPlaces();
            case 2:
                return now.bodyBits();
            case 3:
                return now.checkBits();
            case 4:
                return now.zeroValues();
            case 5:
                return now.sumOfSizes();
            case 6:
                return currentReading().paths;
            case 7:
                return currentReading().rightPaths();
            case 8:
                return savedStates;
            default:
                throw new IllegalArgumentException("what is not 0 to 8");
        }
    }

    public int setting(int setting) throws IndexOutOfBoundsException {
        if (setting < 0 || setting >= SETTINGS) {
            throw new IndexOutOfBoundsException("there is no such setting");
        }
        return now.settings[setting];
    }

    // ---- what would be; nothing is changed

    public int ifFlipped(int place) throws IndexOutOfBoundsException {
        if (!now.hasPlace(place)) {
            throw new IndexOutOfBoundsException("there is no such place");
        }
        return trial.messageRead(now, 1 << place, now.settings[PATHS]);
    }

    public int ifPaths(int paths) throws IllegalArgumentException {
        if (paths < 1 || paths > MAX_PATHS) {
            throw new IllegalArgumentException("paths is not 1 to 4");
        }
        return trial.messageRead(now, 0, paths);
    }

    public int weakest() {
        int paths = now.settings[PATHS];
        int readNow = trial.messageRead(now, 0, paths);
        for (int p = 0; p < now.places; p++) {
            if (trial.messageRead(now, 1 << p, paths) != readNow) {
                return p;
            }
        }
        return NONE;
    }

    public int borne() {
        int paths = now.settings[PATHS];
        int readNow = trial.messageRead(now, 0, paths);
        int flipped = 0;
        for (int p = 0; p < now.places; p++) {
            flipped |= 1 << p;
            if (trial.messageRead(now, flipped, paths) != readNow) {
                return p;
            }
        }
        return now.places;
    }

    public double unsureShare() {
        int open = now.openPlaces();
        if (open <= 0) {
            return 0.0;
        }
        long sum = 0;
        for (int p = 0; p < now.places; p++) {
            if (now.isOpen(p)) {
                sum += now.unsureness(p);
            }
        }
        return (double) sum / ((double) MILLION * (double) open);
    }

    public long digest() {
        long hash = DIGEST_START;
        for (int what = 0; what <= 8; what++) {
            hash = 31 * hash + count(what);
        }
        for (int setting = 0; setting < SETTINGS; setting++) {
            hash = 31 * hash + setting(setting);
        }
        for (int p = 0; p < now.places; p++) {
            for (int what = 0; what <= 5; what++) {
                hash = 31 * hash + place(p, what);
            }
            hash = 31 * hash + heard(p);
            hash = 31 * hash + ifFlipped(p);
        }
        for (int what = 0; what <= 4; what++) {
            hash = 31 * hash + read(what);
        }
        for (int rank = 0; rank <= 3; rank++) {
            for (int what = 0; what <= 2; what++) {
                hash = 31 * hash + path(rank, what);
            }
        }
        hash = 31 * hash + code(1);
        hash = 31 * hash + code(52);
        hash = 31 * hash + code(43690);
        hash = 31 * hash + word(0);
        for (int paths = 1; paths <= MAX_PATHS; paths++) {
            hash = 31 * hash + ifPaths(paths);
        }
        hash = 31 * hash + weakest();
        hash = 31 * hash + borne();
        hash = 31 * hash + bitsOfShare(unsureShare());
        hash = 31 * hash + text.length;
        for (int i = 0; i < text.length; i++) {
            hash = 31 * hash + text.signs[i];
        }
        return hash;
    }

    /** Saves the state for undo; every method that changes the state calls it first. */
    private void save() {
        saved[(oldestSaved + savedStates) % MAX_SAVED].copyFrom(now);
        if (savedStates < MAX_SAVED) {
            savedStates++;
        } else {
            oldestSaved = (oldestSaved + 1) % MAX_SAVED;
        }
        readingIsFresh = false;
    }

    private Reading currentReading() {
        if (!readingIsFresh) {
            reading.messageRead(now, 0, now.settings[PATHS]);
            readingIsFresh = true;
        }
        return reading;
    }

    private static int coded(int bits, int places) {
        int result = bits & (1 << places) - 1;
        for (int level = 0; level < FORMER_PLACES.length && 1 << level < places; level++) {
            result ^= result >> (1 << level) & FORMER_PLACES[level];
        }
        return result;
    }

    private static int checkNumber(int message, int bodyBits, int checkBits) {
        int sum = 0;
        for (int j = 0; j < bodyBits; j++) {
            sum += (message >> j & 1) * (j + 1);
        }
        return sum & (1 << checkBits) - 1;
    }

    /**
     * The bits of a share as Double.doubleToLongBits tells them, which LANGUAGE.md does not list.
     * A share is 0, or from 1 / 16000000 to 1, so that it is never subnormal.
     */
    private static long bitsOfShare(double share) {
        if (share <= 0.0) {
            return 0L;
        }
        double scaled = share;
        long exponent = 1023;
        for (int i = 0; i < 64 && scaled < 1.0; i++) {
            scaled = scaled * 2.0;
            exponent--;
        }
        double twoTo52 = 4503599627370496.0;
        return (exponent << 52) + (long) ((scaled - 1.0) * twoTo52);
    }

    /** What undo brings back: the places, which are open, the values received, the settings. */
    private static final class Word {
        final int[] values = new int[MAX_PLACES];
        final int[] settings = new int[SETTINGS];
        int places = 8;
        int openMask;

        Word() {
            settings[NOISE] = 500;
            settings[PATHS] = 1;
            settings[CHECKS] = 0;
            settings[STRENGTH] = 10;
        }

        void copyFrom(Word other) {
            System.arraycopy(other.values, 0, values, 0, MAX_PLACES);
            System.arraycopy(other.settings, 0, settings, 0, SETTINGS);
            places = other.places;
            openMask = other.openMask;
        }

        boolean hasPlace(int place) {
            return place >= 0 && place < places;
        }

        boolean isOpen(int place) {
            return (openMask >> place & 1) == 1;
        }

        int openPlaces() {
            return Integer.bitCount(openMask);
        }

        int openPlacesBefore(int place) {
            return Integer.bitCount(openMask & (1 << place) - 1);
        }

        int checkBits() {
            return Math.min(settings[CHECKS], openPlaces());
        }

        int bodyBits() {
            return openPlaces() - checkBits();
        }

        boolean isForCheckBit(int place) {
            return isOpen(place) && openPlacesBefore(place) >= bodyBits();
        }

        int unsureness(int place) {
            long z = settings[NOISE] * 1000L;
            for (int digit = places / 2; digit > 0; digit /= 2) {
                long squared = z * z / MILLION;
                z = (place & digit) == 0 ? 2 * z - squared : squared;
            }
            return (int) z;
        }

        int sureRank(int place) {
            int own = unsureness(place);
            int rank = 0;
            for (int p = 0; p < places; p++) {
                int other = unsureness(p);
                if (other < own || other == own && p > place) {
                    rank++;
                }
            }
            return rank;
        }

        boolean hasRoomFor(int body) {
            return body >= 0 && body >> bodyBits() == 0;
        }

        int bodyOf(int message) {
            return message & (1 << bodyBits()) - 1;
        }

        int withChecks(int body) {
            int bodyBits = bodyBits();
            return body | checkNumber(body, bodyBits, checkBits()) << bodyBits;
        }

        int wordOf(int message) {
            int bits = 0;
            int left = message;
            for (int p = 0; p < places; p++) {
                if (isOpen(p)) {
                    bits |= (left & 1) << p;
                    left >>= 1;
                }
            }
            return coded(bits, places);
        }

        int messageOf(int bits) {
            int message = 0;
            int j = 0;
            for (int p = 0; p < places; p++) {
                if (isOpen(p)) {
                    message |= (bits >> p & 1) << j;
                    j++;
                }
            }
            return message;
        }

        int differences(int word) {
            int differ = 0;
            for (int p = 0; p < places; p++) {
                boolean isOne = (word >> p & 1) == 1;
                if (isOne ? values[p] > 0 : values[p] < 0) {
                    differ++;
                }
            }
            return differ;
        }

        int zeroValues() {
            int zeros = 0;
            for (int p = 0; p < places; p++) {
                zeros += values[p] == 0 ? 1 : 0;
            }
            return zeros;
        }

        int sumOfSizes() {
            int sum = 0;
            for (int p = 0; p < places; p++) {
                sum += Math.abs(values[p]);
            }
            return sum;
        }
    }

    /** The paths of one reading, in rows that every reading uses again. */
    private static final class Reading {
        private final int[] received = new int[MAX_PLACES];
        private final int[] row = new int[MAX_PLACES];
        private final int[] bits = new int[MAX_PATHS];
        final int[] penalties = new int[MAX_PATHS];
        final int[] messages = new int[MAX_PATHS];
        final boolean[] isRight = new boolean[MAX_PATHS];
        private final int[] grownBits = new int[2 * MAX_PATHS];
        private final int[] grownPenalties = new int[2 * MAX_PATHS];
        private int grown;
        private int places;
        /** How many paths there are; at the end the rows have them by their ranks. */
        int paths;
        int rankRead;

        /** Reads what is received, with the values of the places in the mask flipped. */
        int messageRead(Word word, int flipped, int limit) {
            places = word.places;
            for (int p = 0; p < MAX_PLACES; p++) {
                received[p] = (flipped >> p & 1) == 1 ? -word.values[p] : word.values[p];
            }
            paths = 1;
            bits[0] = 0;
            penalties[0] = 0;
            for (int p = 0; p < places; p++) {
                growPaths(p, word.isOpen(p));
                keepLeast(limit);
            }
            orderByPenalties();
            judge(word);
            return rankRead >= 0 && rankRead < MAX_PATHS ? messages[rankRead] : NONE;
        }

        private void judge(Word word) {
            int bodyBits = word.bodyBits();
            int checkBits = word.checkBits();
            rankRead = NONE;
            for (int rank = 0; rank < paths && rank < MAX_PATHS; rank++) {
                int message = word.messageOf(bits[rank]);
                messages[rank] = message;
                isRight[rank] = message >> bodyBits == checkNumber(message, bodyBits, checkBits);
                if (isRight[rank] && rankRead == NONE) {
                    rankRead = rank;
                }
            }
        }

        private void growPaths(int place, boolean isOpen) {
            grown = 0;
            for (int t = 0; t < paths && t < MAX_PATHS; t++) {
                int hears = hear(bits[t], place);
                addGrown(bits[t], penalties[t] + (hears < 0 ? -hears : 0));
                if (isOpen) {
                    addGrown(bits[t] | 1 << place, penalties[t] + (hears > 0 ? hears : 0));
                }
            }
        }

        private void addGrown(int pathBits, int penalty) {
            if (grown < grownBits.length) {
                grownBits[grown] = pathBits;
                grownPenalties[grown] = penalty;
                grown++;
            }
        }

        private void keepLeast(int limit) {
            paths = 0;
            for (int t = 0; t < grown; t++) {
                if (rankOfGrown(t) < limit && paths < MAX_PATHS) {
                    bits[paths] = grownBits[t];
                    penalties[paths] = grownPenalties[t];
                    paths++;
                }
            }
        }

        private int rankOfGrown(int path) {
            int rank = 0;
            for (int t = 0; t < grown; t++) {
                int more = grownPenalties[path] - grownPenalties[t];
                if (more > 0 || more == 0 && t < path) {
                    rank++;
                }
            }
            return rank;
        }

        private void orderByPenalties() {
            grown = 0;
            for (int t = 0; t < paths; t++) {
                addGrown(bits[t], penalties[t]);
            }
            for (int t = 0; t < grown; t++) {
                int rank = rankOfGrown(t);
                if (rank < MAX_PATHS) {
                    bits[rank] = grownBits[t];
                    penalties[rank] = grownPenalties[t];
                }
            }
        }

        private int hear(int pathBits, int place) {
            System.arraycopy(received, 0, row, 0, MAX_PLACES);
            int rest = place;
            for (int half = places / 2; half > 0; half /= 2) {
                if (rest < half) {
                    pairUnread(half);
                } else {
                    int former = pathBits >> place - rest & (1 << half) - 1;
                    pairRead(half, coded(former, half));
                    rest -= half;
                }
            }
            return row[0];
        }

        private void pairUnread(int half) {
            for (int j = 0; j < half; j++) {
                int a = row[j];
                int b = row[j + half];
                int sizeA = a < 0 ? -a : a;
                int sizeB = b < 0 ? -b : b;
                int size = sizeA < sizeB ? sizeA : sizeB;
                row[j] = a < 0 == b < 0 ? size : -size;
            }
        }

        private void pairRead(int half, int formerCoded) {
            for (int j = 0; j < half; j++) {
                boolean isOne = (formerCoded >> j & 1) == 1;
                row[j] = isOne ? row[j + half] - row[j] : row[j + half] + row[j];
            }
        }

        int heardByFirst(int place) {
            return hear(bits[0], place);
        }

        int rightPaths() {
            int right = 0;
            for (int rank = 0; rank < paths; rank++) {
                right += isRight[rank] ? 1 : 0;
            }
            return right;
        }
    }

    /** The buffer, and what it tells of values. */
    private static final class ValuesText {
        private static final int VALUE = 0;
        private static final int DIGIT = 1;
        private static final int DIGIT_OR_COMMA = 2;
        private static final int COMMA = 3;

        final char[] signs = new char[MAX_TEXT];
        int length;
        final int[] values = new int[MAX_PLACES];
        int told;
        private int awaited;
        private boolean isBelowZero;

        /** Reads the buffer up to its first syntax error, and returns where that is. */
        int scan() {
            told = 0;
            awaited = VALUE;
            isBelowZero = false;
            for (int i = 0; i < length; i++) {
                if (!takes(signs[i])) {
                    return i;
                }
            }
            return length;
        }

        boolean endsWithValue() {
            return awaited == DIGIT_OR_COMMA || awaited == COMMA;
        }

        private boolean takes(char sign) {
            if (sign == ',') {
                return takesComma();
            }
            if (sign == '-') {
                return takesMinus();
            }
            return sign >= '0' && sign <= '9' && takesDigit(sign - '0');
        }

        private boolean takesComma() {
            if (!endsWithValue() || told >= MAX_PLACES) {
                return false;
            }
            awaited = VALUE;
            isBelowZero = false;
            return true;
        }

        private boolean takesMinus() {
            if (awaited != VALUE) {
                return false;
            }
            awaited = DIGIT;
            isBelowZero = true;
            return true;
        }

        private boolean takesDigit(int digit) {
            int signed = isBelowZero ? -digit : digit;
            if (awaited == DIGIT_OR_COMMA && told > 0 && told <= MAX_PLACES) {
                values[told - 1] = values[told - 1] * 10 + signed;
                awaited = COMMA;
                return true;
            }
            if ((awaited == VALUE || awaited == DIGIT) && told < MAX_PLACES) {
                values[told] = signed;
                told++;
                awaited = digit == 0 ? COMMA : DIGIT_OR_COMMA;
                return true;
            }
            return false;
        }
    }
}
