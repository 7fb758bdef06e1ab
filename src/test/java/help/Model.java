import java.math.BigDecimal;
import java.math.BigInteger;
import java.math.RoundingMode;
import java.util.ArrayDeque;
import java.util.ArrayList;
import java.util.Arrays;
import java.util.Deque;
import java.util.List;

/**
 * The document told a second time, as slowly and plainly as can be: whole copies instead of rows
 * used again, every heat from both sides of its link, wide numbers, and a text read by states.
 */
final class Model {
    static final int INVALID = -1000001;
    static final int ILLEGAL = -1000002;
    static final int FULL = -1000003;
    static final int NONE = -1000009;

    static final class Room {
        long capacity;
        long power;
        long leak;
        long heat;
        long point = 20000;
        long band = 1000;
        long blade;
        boolean closed;
        boolean welded;
        boolean tripped;
        long wear;
        long attempts;
        long fines;
        long suspect;
        List<Long> closings = new ArrayList<>();
        long first;
        long fromHeater;
        long toOutside;
        long toRooms;
        long warmed;

        Room copy() {
            Room r = new Room();
            r.capacity = capacity;
            r.power = power;
            r.leak = leak;
            r.heat = heat;
            r.point = point;
            r.band = band;
            r.blade = blade;
            r.closed = closed;
            r.welded = welded;
            r.tripped = tripped;
            r.wear = wear;
            r.attempts = attempts;
            r.fines = fines;
            r.suspect = suspect;
            r.closings = new ArrayList<>(closings);
            r.first = first;
            r.fromHeater = fromHeater;
            r.toOutside = toOutside;
            r.toRooms = toRooms;
            r.warmed = warmed;
            return r;
        }

        long temperature() {
            return new BigDecimal(BigInteger.valueOf(1000).multiply(BigInteger.valueOf(heat)))
                    .divide(new BigDecimal(capacity), 0, RoundingMode.FLOOR).longValueExact();
        }
    }

    static final class State {
        long[] numbers = {25, 1000, 5, 10, 7, 45000, 15};
        List<Room> rooms = new ArrayList<>();
        long[][] links = new long[6][6];
        List<long[]> points = new ArrayList<>();
        long time;

        State copy() {
            State s = new State();
            s.numbers = numbers.clone();
            for (Room room : rooms) {
                s.rooms.add(room.copy());
            }
            for (int i = 0; i < 6; i++) {
                s.links[i] = links[i].clone();
            }
            s.points = new ArrayList<>(points);
            s.time = time;
            return s;
        }

        long outside(long m) {
            if (points.isEmpty()) {
                return 0;
            }
            long[] first = points.get(0);
            long[] last = points.get(points.size() - 1);
            if (m < first[0]) {
                return 1000 * first[1];
            }
            if (m > last[0]) {
                return 1000 * last[1];
            }
            for (long[] point : points) {
                if (point[0] == m) {
                    return 1000 * point[1];
                }
            }
            int i = 0;
            while (points.get(i + 1)[0] < m) {
                i++;
            }
            long m1 = points.get(i)[0];
            long t1 = points.get(i)[1];
            long m2 = points.get(i + 1)[0];
            long t2 = points.get(i + 1)[1];
            return 1000 * t1 + (1000 * (t2 - t1) * (m - m1)) / (m2 - m1);
        }

        int minute() {
            int n = rooms.size();
            long outside = outside(time);
            long[] temperatures = new long[n];
            for (int i = 0; i < n; i++) {
                temperatures[i] = rooms.get(i).temperature();
            }
            for (int i = 0; i < n; i++) {
                Room r = rooms.get(i);
                if (r.closed && !r.tripped) {
                    r.fromHeater += r.power;
                }
                r.toOutside += r.leak * (temperatures[i] - outside) / 1000;
                for (int j = 0; j < n; j++) {
                    if (j != i) {
                        r.toRooms += links[i][j] * (temperatures[i] - temperatures[j]) / 1000;
                    }
                }
                r.heat = r.first + r.fromHeater - r.toOutside - r.toRooms + r.warmed;
            }
            int switches = 0;
            for (Room r : rooms) {
                switches += contact(r);
            }
            time++;
            return switches;
        }

        private int contact(Room r) {
            int switches = 0;
            if (r.temperature() > numbers[5]) {
                r.tripped = true;
            }
            r.blade = r.blade + (r.temperature() - r.blade) * numbers[0] / 100;
            boolean cold = r.blade <= r.point - r.band;
            boolean hot = r.blade >= r.point + r.band;
            if (!r.closed && cold) {
                r.closed = true;
                switches++;
                r.wear += r.power;
                if (r.wear >= numbers[1]) {
                    r.welded = true;
                }
                if (!r.closings.isEmpty() && time - r.closings.get(r.closings.size() - 1) < numbers[3]) {
                    r.fines += numbers[4];
                }
                r.closings.add(time);
            } else if (r.closed && hot) {
                boolean opens = !r.welded;
                if (r.welded) {
                    r.attempts++;
                    if (r.attempts >= numbers[2]) {
                        opens = true;
                        r.welded = false;
                        r.attempts = 0;
                        r.wear = r.wear / 2;
                    }
                }
                if (opens) {
                    r.closed = false;
                    switches++;
                }
            }
            if (r.closed && hot) {
                r.suspect++;
            } else {
                r.suspect = 0;
            }
            return switches;
        }
    }

    private State state = new State();
    private final Deque<State> saved = new ArrayDeque<>();
    private String text = "";

    private void save() {
        saved.addLast(state.copy());
        if (saved.size() > 6) {
            saved.removeFirst();
        }
    }

    private boolean noRoom(int room) {
        return room < 0 || room >= state.rooms.size();
    }

    private static boolean out(int value, int from, int to) {
        return value < from || value > to;
    }

    int addRoom(int capacity, int power, int leak, int degrees) {
        if (out(capacity, 10, 500) || out(power, 1, 200) || out(leak, 0, 50) || 2 * leak > capacity
                || out(degrees, -40, 40)) {
            return INVALID;
        }
        if (state.rooms.size() == 6) {
            return FULL;
        }
        save();
        Room r = new Room();
        r.capacity = capacity;
        r.power = power;
        r.leak = leak;
        r.first = (long) capacity * degrees;
        r.heat = r.first;
        r.blade = r.temperature();
        state.rooms.add(r);
        return state.rooms.size() - 1;
    }

    int setLink(int first, int second, int link) {
        if (noRoom(first) || noRoom(second) || first == second || out(link, 0, 50)) {
            return INVALID;
        }
        State then = state.copy();
        then.links[first][second] = link;
        then.links[second][first] = link;
        for (int room : new int[] {first, second}) {
            long sum = then.rooms.get(room).leak + Arrays.stream(then.links[room]).sum();
            if (2 * sum > then.rooms.get(room).capacity) {
                return ILLEGAL;
            }
        }
        int previous = (int) state.links[first][second];
        save();
        state = then;
        return previous;
    }

    int setThermostat(int room, int point, int band) {
        if (noRoom(room) || out(point, 5000, 35000) || out(band, 100, 5000)) {
            return INVALID;
        }
        save();
        Room r = state.rooms.get(room);
        int changed = r.point != point || r.band != band ? 1 : 0;
        r.point = point;
        r.band = band;
        return changed;
    }

    int setNumber(int what, int value) {
        int[][] ranges = {{1, 100}, {1, 9999}, {1, 50}, {0, 120}, {0, 100}, {20000, 90000}, {1, 120}};
        if (out(what, 0, 6) || out(value, ranges[what][0], ranges[what][1])) {
            return INVALID;
        }
        save();
        int previous = (int) state.numbers[what];
        state.numbers[what] = value;
        return previous;
    }

    int warm(int room, int heat) {
        if (noRoom(room) || out(heat, -50000, 50000)) {
            return INVALID;
        }
        State then = state.copy();
        Room r = then.rooms.get(room);
        r.heat += heat;
        r.warmed += heat;
        long temperature = r.temperature();
        if (temperature < -200000 || temperature > 200000) {
            return ILLEGAL;
        }
        save();
        state = then;
        return (int) temperature;
    }

    int service(int room) {
        if (noRoom(room)) {
            return INVALID;
        }
        save();
        Room r = state.rooms.get(room);
        int wear = (int) r.wear;
        r.wear = 0;
        r.attempts = 0;
        r.welded = false;
        r.closed = false;
        return wear;
    }

    int resetCutout(int room) {
        if (noRoom(room)) {
            return INVALID;
        }
        Room r = state.rooms.get(room);
        if (!r.tripped || r.temperature() > state.numbers[5]) {
            return ILLEGAL;
        }
        save();
        r.tripped = false;
        return (int) r.temperature();
    }

    int room(int room, int what) {
        if (noRoom(room) || out(what, 0, 13)) {
            return INVALID;
        }
        Room r = state.rooms.get(room);
        int times = r.closings.size();
        long[] all = {r.temperature(), r.heat, r.blade, r.closed ? 1 : 0, r.welded ? 1 : 0, r.wear, r.attempts, times,
                r.fines, r.suspect, r.tripped ? 1 : 0, times == 0 ? NONE : r.closings.get(times - 1), r.point, r.band};
        return Math.toIntExact(all[what]);
    }

    int book(int room, int what) {
        if (noRoom(room) || out(what, 0, 4)) {
            return INVALID;
        }
        Room r = state.rooms.get(room);
        return Math.toIntExact(new long[] {r.first, r.fromHeater, r.toOutside, r.toRooms, r.warmed}[what]);
    }

    int link(int first, int second) {
        return noRoom(first) || noRoom(second) || first == second ? INVALID : (int) state.links[first][second];
    }

    int count(int what) {
        if (out(what, 0, 13)) {
            return INVALID;
        }
        long suspects = state.rooms.stream().filter(r -> r.suspect >= state.numbers[6]).count();
        long fines = state.rooms.stream().mapToLong(r -> r.fines).sum();
        long[] more = {state.rooms.size(), state.time, state.points.size(), suspects, fines, text.length(), saved.size()};
        return Math.toIntExact(what < 7 ? state.numbers[what] : more[what - 7]);
    }

    int appendCharacter(int character) {
        if (out(character, 0, 255)) {
            return INVALID;
        }
        if (text.length() == 100) {
            return FULL;
        }
        text += (char) character;
        return text.length();
    }

    int clearText() {
        int length = text.length();
        text = "";
        return length;
    }

    int load() {
        List<long[]> points = new ArrayList<>();
        int error = read(points);
        if (error >= 0) {
            return -10 - error;
        }
        save();
        state.points = points;
        text = "";
        return points.size();
    }

    /** Reads a character a round; expect: m minute or end, n minute, = the sign, t temperature, ; the next one. */
    private int read(List<long[]> points) {
        char expect = 'm';
        long minute = 0;
        int i = 0;
        while (i < text.length()) {
            char c = text.charAt(i);
            if (c == ' ') {
                i++;
                continue;
            }
            int start = i;
            boolean minus = expect == 't' && c == '-';
            int from = minus ? i + 1 : i;
            int to = from;
            while (to < text.length() && "0123456789".indexOf(text.charAt(to)) >= 0) {
                to++;
            }
            if (expect == '=' || expect == ';') {
                if (c != expect) {
                    return i;
                }
                expect = c == '=' ? 't' : 'n';
                i++;
                continue;
            }
            if (to == from) {
                return from;
            }
            String digits = text.substring(from, to);
            BigInteger value = new BigInteger(digits);
            boolean fits = digits.equals(value.toString())
                    && value.compareTo(BigInteger.valueOf(expect == 't' ? 40 : 9999)) <= 0;
            if (!fits) {
                return start;
            }
            if (expect == 't') {
                points.add(new long[] {minute, minus ? -value.longValue() : value.longValue()});
                expect = ';';
            } else {
                minute = value.longValue();
                if (points.size() == 12 || !points.isEmpty() && minute <= points.get(points.size() - 1)[0]) {
                    return start;
                }
                expect = '=';
            }
            i = to;
        }
        return expect == 'm' || expect == ';' ? -1 : text.length();
    }

    int outside(int minute) {
        return out(minute, 0, 20000) ? INVALID : (int) state.outside(minute);
    }

    int pass(int minutes) {
        if (out(minutes, 1, 500)) {
            return INVALID;
        }
        if (state.rooms.isEmpty()) {
            return ILLEGAL;
        }
        if (state.time + minutes > 20000) {
            return FULL;
        }
        save();
        int switches = 0;
        for (int i = 0; i < minutes; i++) {
            switches += state.minute();
        }
        return switches;
    }

    int minutesToSuspect(int room) {
        if (noRoom(room)) {
            return INVALID;
        }
        State then = state.copy();
        for (int minutes = 0; minutes <= 1000; minutes++) {
            if (then.rooms.get(room).suspect >= then.numbers[6]) {
                return minutes;
            }
            then.minute();
        }
        return NONE;
    }

    int heatIn(int minutes) {
        if (out(minutes, 1, 1000)) {
            return INVALID;
        }
        State then = state.copy();
        long heat = 0;
        for (int i = 0; i < minutes; i++) {
            for (Room r : then.rooms) {
                heat += r.closed && !r.tripped ? r.power : 0;
            }
            then.minute();
        }
        return Math.toIntExact(heat);
    }

    int finesWith(int room, int band, int minutes) {
        if (noRoom(room) || out(band, 100, 5000) || out(minutes, 1, 1000)) {
            return INVALID;
        }
        State then = state.copy();
        then.rooms.get(room).band = band;
        for (int i = 0; i < minutes; i++) {
            then.minute();
        }
        return Math.toIntExact(then.rooms.get(room).fines - state.rooms.get(room).fines);
    }

    int quietBand(int room, int minutes) {
        if (noRoom(room) || out(minutes, 1, 300)) {
            return INVALID;
        }
        for (int band = 100; band <= 5000; band += 100) {
            if (finesWith(room, band, minutes) == 0) {
                return band;
            }
        }
        return NONE;
    }

    int undo() {
        if (saved.isEmpty()) {
            return ILLEGAL;
        }
        state = saved.removeLast();
        return saved.size();
    }
}
