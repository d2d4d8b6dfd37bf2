import java.util.ArrayDeque;
import java.util.ArrayList;
import java.util.Comparator;
import java.util.Deque;
import java.util.List;
import java.util.regex.Pattern;

/**
 * What the document says, once more and as plainly as can be, to be compared with the program.
 * It shares no code and no way of holding the state with it.
 */
final class Model {
    private static final String VALUE = "-?(0|[1-9][0-9]?)";
    private static final Pattern WHOLE = Pattern.compile(VALUE + "(," + VALUE + "){0,15}");
    private static final Pattern BEGUN = Pattern.compile("(" + VALUE + ",){0,15}(-|" + VALUE + ")?");

    private static final class State {
        List<Boolean> open = new ArrayList<>();
        List<Integer> values = new ArrayList<>();
        List<Integer> settings = new ArrayList<>(List.of(500, 1, 0, 10));

        State copy() {
            State c = new State();
            c.open = new ArrayList<>(open);
            c.values = new ArrayList<>(values);
            c.settings = new ArrayList<>(settings);
            return c;
        }

        void closeAll(int n) {
            open.clear();
            values.clear();
            for (int p = 0; p < n; p++) {
                open.add(false);
                values.add(0);
            }
        }
    }

    private static final class Path {
        final List<Integer> bits;
        final int penalty;

        Path(List<Integer> bits, int penalty) {
            this.bits = bits;
            this.penalty = penalty;
        }

        Path with(int bit, int more) {
            List<Integer> longer = new ArrayList<>(bits);
            longer.add(bit);
            return new Path(longer, penalty + more);
        }
    }

    private State s = new State();
    private final Deque<State> saved = new ArrayDeque<>();
    private String buffer = "";

    Model() {
        s.closeAll(8);
    }

    private int n() {
        return s.open.size();
    }

    private void save() {
        saved.addLast(s.copy());
        if (saved.size() > 6) {
            saved.removeFirst();
        }
    }

    private static void illegalIf(boolean is) {
        if (is) {
            throw new IllegalArgumentException();
        }
    }

    private static void stateIf(boolean is) {
        if (is) {
            throw new IllegalStateException();
        }
    }

    private static void boundsIf(boolean is) {
        if (is) {
            throw new IndexOutOfBoundsException();
        }
    }

    private void needPlace(int place) {
        boundsIf(place < 0 || place >= n());
    }

    // ---- places

    int begin(int k) {
        illegalIf(k < 1 || k > 4);
        save();
        s.closeAll(List.of(2, 4, 8, 16).get(k - 1));
        return n();
    }

    int open(int many) {
        illegalIf(many < 0 || many > 16);
        stateIf(many > n());
        save();
        List<Integer> order = surestFirst();
        int mask = 0;
        for (int r = 0; r < n(); r++) {
            s.open.set(order.get(r), r < many);
            if (r < many) {
                mask += 1 << order.get(r);
            }
        }
        return mask;
    }

    int toggle(int place) {
        needPlace(place);
        save();
        s.open.set(place, !s.open.get(place));
        return s.open.get(place) ? 1 : 0;
    }

    int set(int setting, int value) {
        boundsIf(setting < 0 || setting > 3);
        illegalIf(value < List.of(1, 1, 0, 1).get(setting));
        illegalIf(value > List.of(999, 4, 3, 99).get(setting));
        save();
        return s.settings.set(setting, value);
    }

    private int unsure(int place) {
        long z = s.settings.get(0) * 1000L;
        StringBuilder digits = new StringBuilder(Integer.toBinaryString(place));
        while (1 << digits.length() < n()) {
            digits.insert(0, '0');
        }
        for (char digit : digits.toString().toCharArray()) {
            long zz = z * z / 1000000;
            z = digit == '0' ? 2 * z - zz : zz;
        }
        return (int) z;
    }

    private List<Integer> surestFirst() {
        List<Integer> order = new ArrayList<>();
        for (int p = n() - 1; p >= 0; p--) {
            order.add(p);
        }
        order.sort(Comparator.comparingInt(this::unsure));
        return order;
    }

    // ---- messages

    private List<Integer> openPlaces() {
        List<Integer> places = new ArrayList<>();
        for (int p = 0; p < n(); p++) {
            if (s.open.get(p)) {
                places.add(p);
            }
        }
        return places;
    }

    private int checks() {
        int open = openPlaces().size();
        return open <= s.settings.get(2) ? open : s.settings.get(2);
    }

    private int bodies() {
        return openPlaces().size() - checks();
    }

    private int checkNumber(int body) {
        int sum = 0;
        for (int j = 0; j < bodies(); j++) {
            if (body / (1 << j) % 2 == 1) {
                sum += j + 1;
            }
        }
        return sum % (1 << checks());
    }

    private boolean isRight(int message) {
        int body = message % (1 << bodies());
        return message / (1 << bodies()) == checkNumber(body);
    }

    private static int[] coded(int[] bits) {
        int[] c = bits.clone();
        for (int step = 1; step < c.length; step *= 2) {
            int[] next = c.clone();
            for (int p = 0; p < c.length; p++) {
                if (p / step % 2 == 0) {
                    next[p] = c[p] != c[p + step] ? 1 : 0;
                }
            }
            c = next;
        }
        return c;
    }

    private static int mask(int[] bits) {
        int mask = 0;
        for (int p = 0; p < bits.length; p++) {
            mask += bits[p] << p;
        }
        return mask;
    }

    private int wordOfMessage(int message) {
        int[] bits = new int[n()];
        List<Integer> open = openPlaces();
        for (int j = 0; j < open.size(); j++) {
            bits[open.get(j)] = message >> j & 1;
        }
        return mask(coded(bits));
    }

    int word(int body) {
        illegalIf(body < 0 || body >= 1 << bodies());
        return wordOfMessage(body + checkNumber(body) * (1 << bodies()));
    }

    int code(int bits) {
        illegalIf(bits < 0 || bits > 65535);
        int[] row = new int[n()];
        for (int p = 0; p < n(); p++) {
            row[p] = bits >> p & 1;
        }
        return mask(coded(row));
    }

    // ---- sending, noise

    int send(int body) {
        int word = word(body);
        save();
        for (int p = 0; p < n(); p++) {
            s.values.set(p, s.settings.get(3) * ((word >> p & 1) == 1 ? -1 : 1));
        }
        return word;
    }

    int receive(int place, int value) {
        needPlace(place);
        illegalIf(value < -99 || value > 99);
        save();
        int before = s.values.set(place, value);
        return Integer.compare(before, 0) != Integer.compare(value, 0) ? 1 : 0;
    }

    int flip(int place) {
        needPlace(place);
        save();
        s.values.set(place, -s.values.get(place));
        return Math.abs(s.values.get(place));
    }

    int roll(int by) {
        illegalIf(by < 0 || by > 15 || by >= n());
        save();
        List<Integer> before = new ArrayList<>(s.values);
        int changed = 0;
        for (int p = 0; p < n(); p++) {
            s.values.set((p + by) % n(), before.get(p));
        }
        for (int p = 0; p < n(); p++) {
            changed += before.get(p).equals(s.values.get(p)) ? 0 : 1;
        }
        return changed;
    }

    // ---- texts

    int append(int code) {
        illegalIf(code < 33 || code > 126);
        stateIf(buffer.length() == 60);
        buffer += (char) code;
        return buffer.length();
    }

    int clearBuffer() {
        int length = buffer.length();
        buffer = "";
        return length;
    }

    int firstError() {
        for (int i = 0; i < buffer.length(); i++) {
            if (!BEGUN.matcher(buffer.substring(0, i + 1)).matches()) {
                return i;
            }
        }
        return buffer.length();
    }

    int receiveAll() {
        illegalIf(!WHOLE.matcher(buffer).matches());
        String[] parts = buffer.split(",");
        stateIf(parts.length > n());
        save();
        for (int p = 0; p < n(); p++) {
            s.values.set(p, p < parts.length ? Integer.parseInt(parts[p]) : 0);
        }
        buffer = "";
        return parts.length;
    }

    int undo() {
        stateIf(saved.isEmpty());
        s = saved.removeLast();
        return saved.size();
    }

    // ---- reading

    private static int hear(int[] row, List<Integer> before) {
        if (row.length == 1) {
            return row[0];
        }
        int half = row.length / 2;
        int[] next = new int[half];
        if (before.size() < half) {
            for (int j = 0; j < half; j++) {
                int least = Math.min(Math.abs(row[j]), Math.abs(row[j + half]));
                next[j] = Integer.signum(row[j]) * Integer.signum(row[j + half]) * least;
            }
            return hear(next, before);
        }
        int[] former = new int[half];
        for (int j = 0; j < half; j++) {
            former[j] = before.get(j);
        }
        former = coded(former);
        for (int j = 0; j < half; j++) {
            next[j] = former[j] == 0 ? row[j + half] + row[j] : row[j + half] - row[j];
        }
        return hear(next, before.subList(half, before.size()));
    }

    private List<Path> reading(List<Integer> values, int limit) {
        int[] row = new int[n()];
        for (int p = 0; p < n(); p++) {
            row[p] = values.get(p);
        }
        List<Path> paths = new ArrayList<>(List.of(new Path(List.of(), 0)));
        for (int p = 0; p < n(); p++) {
            List<Path> longer = new ArrayList<>();
            for (Path path : paths) {
                int hears = hear(row, path.bits);
                longer.add(path.with(0, Math.max(0, -hears)));
                if (s.open.get(p)) {
                    longer.add(path.with(1, Math.max(0, hears)));
                }
            }
            List<Path> ordered = byPenalty(longer);
            longer.retainAll(ordered.subList(0, Math.min(limit, ordered.size())));
            paths = longer;
        }
        return byPenalty(paths);
    }

    private static List<Path> byPenalty(List<Path> paths) {
        List<Path> ordered = new ArrayList<>(paths);
        ordered.sort(Comparator.comparingInt(path -> path.penalty));
        return ordered;
    }

    private List<Path> reading() {
        return reading(s.values, s.settings.get(1));
    }

    private int message(Path path) {
        int message = 0;
        List<Integer> open = openPlaces();
        for (int j = 0; j < open.size(); j++) {
            message += path.bits.get(open.get(j)) << j;
        }
        return message;
    }

    private int rankRead(List<Path> paths) {
        for (int rank = 0; rank < paths.size(); rank++) {
            if (isRight(message(paths.get(rank)))) {
                return rank;
            }
        }
        return -1;
    }

    private int messageRead(List<Path> paths) {
        int rank = rankRead(paths);
        return rank < 0 ? -1 : message(paths.get(rank));
    }

    // ---- looks

    int place(int place, int what) {
        needPlace(place);
        illegalIf(what < 0 || what > 5);
        int which = openPlaces().indexOf(place);
        return switch (what) {
            case 0 -> which >= 0 ? 1 : 0;
            case 1 -> unsure(place);
            case 2 -> surestFirst().indexOf(place);
            case 3 -> s.values.get(place) + 100;
            case 4 -> which;
            default -> which >= 0 && which >= bodies() ? 1 : 0;
        };
    }

    int read(int what) {
        illegalIf(what < 0 || what > 4);
        List<Path> paths = reading();
        int rank = rankRead(paths);
        if (rank < 0) {
            return -1;
        }
        int message = message(paths.get(rank));
        return switch (what) {
            case 0 -> message;
            case 1 -> message % (1 << bodies());
            case 2 -> rank;
            case 3 -> paths.get(rank).penalty;
            default -> differences(wordOfMessage(message));
        };
    }

    private int differences(int word) {
        int differ = 0;
        for (int p = 0; p < n(); p++) {
            int said = Integer.signum(s.values.get(p));
            int sent = (word >> p & 1) == 1 ? -1 : 1;
            differ += said * sent < 0 ? 1 : 0;
        }
        return differ;
    }

    int path(int rank, int what) {
        illegalIf(rank < 0 || what < 0 || what > 2);
        List<Path> paths = reading();
        if (rank >= paths.size()) {
            return -1;
        }
        Path path = paths.get(rank);
        return switch (what) {
            case 0 -> message(path);
            case 1 -> path.penalty;
            default -> isRight(message(path)) ? 1 : 0;
        };
    }

    int heard(int place) {
        needPlace(place);
        int[] row = new int[n()];
        for (int p = 0; p < n(); p++) {
            row[p] = s.values.get(p);
        }
        return hear(row, reading().get(0).bits.subList(0, place)) + 10000;
    }

    int count(int what) {
        illegalIf(what < 0 || what > 8);
        return switch (what) {
            case 0 -> n();
            case 1 -> openPlaces().size();
            case 2 -> bodies();
            case 3 -> checks();
            case 4 -> (int) s.values.stream().filter(v -> v == 0).count();
            case 5 -> s.values.stream().mapToInt(Math::abs).sum();
            case 6 -> reading().size();
            case 7 -> (int) reading().stream().filter(path -> isRight(message(path))).count();
            default -> saved.size();
        };
    }

    int setting(int setting) {
        boundsIf(setting < 0 || setting > 3);
        return s.settings.get(setting);
    }

    // ---- what would be

    int ifFlipped(int place) {
        needPlace(place);
        List<Integer> values = new ArrayList<>(s.values);
        values.set(place, -values.get(place));
        return messageRead(reading(values, s.settings.get(1)));
    }

    int ifPaths(int paths) {
        illegalIf(paths < 1 || paths > 4);
        return messageRead(reading(s.values, paths));
    }

    int weakest() {
        int now = messageRead(reading());
        for (int p = 0; p < n(); p++) {
            if (ifFlipped(p) != now) {
                return p;
            }
        }
        return -1;
    }

    int borne() {
        int now = messageRead(reading());
        List<Integer> values = new ArrayList<>(s.values);
        int borne = 0;
        while (borne < n()) {
            values.set(borne, -values.get(borne));
            if (messageRead(reading(values, s.settings.get(1))) != now) {
                break;
            }
            borne++;
        }
        return borne;
    }

    double unsureShare() {
        double sum = 0;
        for (int p : openPlaces()) {
            sum += unsure(p);
        }
        return openPlaces().isEmpty() ? 0.0 : sum / (1000000.0 * openPlaces().size());
    }

    long digest() {
        List<Long> list = new ArrayList<>();
        for (int what = 0; what <= 8; what++) {
            list.add((long) count(what));
        }
        for (int setting = 0; setting <= 3; setting++) {
            list.add((long) setting(setting));
        }
        for (int p = 0; p < n(); p++) {
            for (int what = 0; what <= 5; what++) {
                list.add((long) place(p, what));
            }
            list.add((long) heard(p));
            list.add((long) ifFlipped(p));
        }
        for (int what = 0; what <= 4; what++) {
            list.add((long) read(what));
        }
        for (int rank = 0; rank <= 3; rank++) {
            for (int what = 0; what <= 2; what++) {
                list.add((long) path(rank, what));
            }
        }
        list.add((long) code(1));
        list.add((long) code(52));
        list.add((long) code(43690));
        list.add((long) word(0));
        for (int paths = 1; paths <= 4; paths++) {
            list.add((long) ifPaths(paths));
        }
        list.add((long) weakest());
        list.add((long) borne());
        list.add(Double.doubleToLongBits(unsureShare()));
        list.add((long) buffer.length());
        for (char sign : buffer.toCharArray()) {
            list.add((long) sign);
        }
        long hash = 2797;
        for (long v : list) {
            hash = 31 * hash + v;
        }
        return hash;
    }
}
