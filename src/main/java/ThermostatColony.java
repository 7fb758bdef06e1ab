/**
 * A colony of rooms with bimetal thermostats, as ../shared/DOC.md describes it.
 *
 * <p>Everything that a call needs is made with the object: the present state, one more for
 * forecasts, and the states saved for undo(). No call makes an object.
 */
public final class ThermostatColony {
    public static final int INVALID_ARGUMENT = -1000001;
    public static final int ILLEGAL_STATE = -1000002;
    public static final int CAPACITY_EXCEEDED = -1000003;
    public static final int NONE = -1000009;

    private static final int MOST_ROOMS = 6;
    private static final int MOST_POINTS = 12;
    private static final int MOST_CHARACTERS = 100;
    private static final int MOST_SAVED = 6;
    private static final int LAST_TIME = 20000;
    private static final int LAST_WEATHER_MINUTE = 9999;
    private static final int MOST_DEGREES = 40;
    private static final int MOST_LINK = 50;
    private static final int MOST_WARM_TEMPERATURE = 200000;
    private static final int LEAST_BAND = 100;
    private static final int MOST_BAND = 5000;
    private static final int BAND_STEP = 100;
    private static final int MOST_FORECAST = 1000;

    private static final int LAG = 0;
    private static final int WELD_LIMIT = 1;
    private static final int ATTEMPTS_TO_BREAK_FREE = 2;
    private static final int CYCLE_TIME = 3;
    private static final int FINE = 4;
    private static final int CUTOUT_TEMPERATURE = 5;
    private static final int SUSPECT_TIME = 6;
    private static final int NUMBERS = 7;

    private static final int[] FIRST_NUMBERS = {25, 1000, 5, 10, 7, 45000, 15};
    private static final int[] LEAST_NUMBERS = {1, 1, 1, 0, 0, 20000, 1};
    private static final int[] MOST_NUMBERS = {100, 9999, 50, 120, 100, 90000, 120};

    private final Colony now = new Colony();
    private final Colony forecast = new Colony();
    private final History history = new History();
    private final WeatherText text = new WeatherText();
    private final Weather weatherRead = new Weather();

    public ThermostatColony() {
    }

    public int addRoom(int capacity, int power, int leak, int degrees) {
        if (!within(capacity, 10, 500) || !within(power, 1, 200)
                || !within(leak, 0, 50) || leak > capacity / 2
                || !within(degrees, -MOST_DEGREES, MOST_DEGREES)) {
            return INVALID_ARGUMENT;
        }
        if (now.roomCount >= MOST_ROOMS) {
            return CAPACITY_EXCEEDED;
        }
        history.save(now);
        return now.beginRoom(capacity, power, leak, degrees);
    }

    public int setLink(int first, int second, int link) {
        if (!now.hasPair(first, second) || !within(link, 0, MOST_LINK)) {
            return INVALID_ARGUMENT;
        }
        int previous = now.linkOf(first, second);
        int increase = link - previous;
        if (!now.canCarry(first, increase) || !now.canCarry(second, increase)) {
            return ILLEGAL_STATE;
        }
        history.save(now);
        now.putLink(first, second, link);
        return previous;
    }

    public int setThermostat(int room, int point, int band) {
        Room changed = now.roomAt(room);
        if (changed == null || !within(point, 5000, 35000)
                || !within(band, LEAST_BAND, MOST_BAND)) {
            return INVALID_ARGUMENT;
        }
        history.save(now);
        boolean same = changed.point == point && changed.band == band;
        changed.point = point;
        changed.band = band;
        return same ? 0 : 1;
    }

    public int setNumber(int what, int value) {
        if (!isNumberInRange(what, value)) {
            return INVALID_ARGUMENT;
        }
        history.save(now);
        int previous = now.number(what);
        now.putNumber(what, value);
        return previous;
    }

    public int warm(int room, int heat) {
        Room warmed = now.roomAt(room);
        if (warmed == null || !within(heat, -50000, 50000)) {
            return INVALID_ARGUMENT;
        }
        int temperature = warmed.temperatureWith(warmed.heat + heat);
        if (!within(temperature, -MOST_WARM_TEMPERATURE, MOST_WARM_TEMPERATURE)) {
            return ILLEGAL_STATE;
        }
        history.save(now);
        warmed.bringIn(heat);
        return temperature;
    }

    public int service(int room) {
        Room serviced = now.roomAt(room);
        if (serviced == null) {
            return INVALID_ARGUMENT;
        }
        history.save(now);
        int wear = serviced.wear;
        serviced.renewContact();
        return wear;
    }

    public int resetCutout(int room) {
        Room reset = now.roomAt(room);
        if (reset == null) {
            return INVALID_ARGUMENT;
        }
        int temperature = reset.temperature();
        if (!reset.tripped || temperature > now.number(CUTOUT_TEMPERATURE)) {
            return ILLEGAL_STATE;
        }
        history.save(now);
        reset.tripped = false;
        return temperature;
    }

    public int room(int room, int what) {
        Room asked = now.roomAt(room);
        return asked == null ? INVALID_ARGUMENT : asked.property(what);
    }

    public int book(int room, int what) {
        Room asked = now.roomAt(room);
        return asked == null ? INVALID_ARGUMENT : asked.books.sum(what);
    }

    public int link(int first, int second) {
        return now.hasPair(first, second) ? now.linkOf(first, second) : INVALID_ARGUMENT;
    }

    public int count(int what) {
        if (within(what, 0, NUMBERS - 1)) {
            return now.number(what);
        }
        switch (what) {
            case 7:
                return now.roomCount;
            case 8:
                return now.time;
            case 9:
                return now.weather.size;
            case 10:
                return now.suspectRooms();
            case 11:
                return now.allFines();
            case 12:
                return text.length;
            case 13:
                return history.size;
            default:
                return INVALID_ARGUMENT;
        }
    }

    public int appendCharacter(int character) {
        if (!within(character, 0, 255)) {
            return INVALID_ARGUMENT;
        }
        return text.append(character) ? text.length : CAPACITY_EXCEEDED;
    }

    public int clearText() {
        int previous = text.length;
        text.length = 0;
        return previous;
    }

    public int load() {
        int error = text.readInto(weatherRead);
        if (error != WeatherText.NO_ERROR) {
            return -10 - error;
        }
        history.save(now);
        now.weather.copyFrom(weatherRead);
        text.length = 0;
        return now.weather.size;
    }

    public int outside(int minute) {
        return within(minute, 0, LAST_TIME) ? now.weather.temperatureAt(minute) : INVALID_ARGUMENT;
    }

    public int pass(int minutes) {
        if (!within(minutes, 1, 500)) {
            return INVALID_ARGUMENT;
        }
        if (now.roomCount == 0) {
            return ILLEGAL_STATE;
        }
        if (minutes > LAST_TIME - now.time) {
            return CAPACITY_EXCEEDED;
        }
        history.save(now);
        return now.passMinutes(minutes);
    }

    public int minutesToSuspect(int room) {
        forecast.copyFrom(now);
        Room watched = forecast.roomAt(room);
        if (watched == null) {
            return INVALID_ARGUMENT;
        }
        for (int minutes = 0; minutes < MOST_FORECAST; minutes++) {
            if (forecast.isSuspect(watched)) {
                return minutes;
            }
            forecast.passMinute();
        }
        return forecast.isSuspect(watched) ? MOST_FORECAST : NONE;
    }

    public int heatIn(int minutes) {
        if (!within(minutes, 1, MOST_FORECAST)) {
            return INVALID_ARGUMENT;
        }
        forecast.copyFrom(now);
        forecast.passMinutes(minutes);
        return forecast.heatFromHeaters() - now.heatFromHeaters();
    }

    public int finesWith(int room, int band, int minutes) {
        Room watched = forecastWithBand(room, band);
        if (watched == null || !within(band, LEAST_BAND, MOST_BAND)
                || !within(minutes, 1, MOST_FORECAST)) {
            return INVALID_ARGUMENT;
        }
        int before = watched.fines;
        forecast.passMinutes(minutes);
        return watched.fines - before;
    }

    public int quietBand(int room, int minutes) {
        if (now.roomAt(room) == null || !within(minutes, 1, 300)) {
            return INVALID_ARGUMENT;
        }
        for (int band = LEAST_BAND; band <= MOST_BAND; band += BAND_STEP) {
            if (isQuiet(forecastWithBand(room, band), minutes)) {
                return band;
            }
        }
        return NONE;
    }

    public int undo() {
        if (history.size == 0) {
            return ILLEGAL_STATE;
        }
        history.restore(now);
        return history.size;
    }

    /** Begins a forecast with another band in one room; answers that room of it, or null. */
    private Room forecastWithBand(int room, int band) {
        forecast.copyFrom(now);
        Room changed = forecast.roomAt(room);
        if (changed != null) {
            changed.band = band;
        }
        return changed;
    }

    /** A noisy band is mostly known long before all minutes have passed, so the first fine ends it. */
    private boolean isQuiet(Room watched, int minutes) {
        if (watched == null) {
            return false;
        }
        int before = watched.fines;
        for (int minute = 0; minute < minutes; minute++) {
            forecast.passMinute();
            if (watched.fines != before) {
                return false;
            }
        }
        return true;
    }

    private static boolean isNumberInRange(int what, int value) {
        return what >= 0 && what < LEAST_NUMBERS.length && what < MOST_NUMBERS.length
                && within(value, LEAST_NUMBERS[what], MOST_NUMBERS[what]);
    }

    private static boolean within(int value, int least, int most) {
        return value >= least && value <= most;
    }

    /** A state of the colony: everything but the text. */
    private static final class Colony {
        private final int[] numbers = new int[NUMBERS];
        private final Room[] rooms = new Room[MOST_ROOMS];
        /** The link of two rooms stands at both of its places, see linkPlace(). */
        private final int[] links = new int[MOST_ROOMS * MOST_ROOMS];
        final Weather weather = new Weather();
        int roomCount;
        int time;

        Colony() {
            for (int what = 0; what < numbers.length && what < FIRST_NUMBERS.length; what++) {
                numbers[what] = FIRST_NUMBERS[what];
            }
            for (int room = 0; room < rooms.length; room++) {
                rooms[room] = new Room();
            }
        }

        void copyFrom(Colony other) {
            System.arraycopy(other.numbers, 0, numbers, 0, NUMBERS);
            System.arraycopy(other.links, 0, links, 0, MOST_ROOMS * MOST_ROOMS);
            weather.copyFrom(other.weather);
            roomCount = other.roomCount;
            time = other.time;
            for (int number = 0; number < roomCount; number++) {
                Room room = roomAt(number);
                Room source = other.roomAt(number);
                if (room != null && source != null) {
                    room.copyFrom(source);
                }
            }
        }

        int number(int what) {
            return what >= 0 && what < numbers.length ? numbers[what] : 0;
        }

        void putNumber(int what, int value) {
            if (what >= 0 && what < numbers.length) {
                numbers[what] = value;
            }
        }

        /** Answers the room of that number, or null if there is none. */
        Room roomAt(int number) {
            return number >= 0 && number < roomCount && number < rooms.length ? rooms[number] : null;
        }

        /** Answers the number of the new room. */
        int beginRoom(int capacity, int power, int leak, int degrees) {
            int number = roomCount;
            roomCount++;
            Room room = roomAt(number);
            if (room != null) {
                room.begin(capacity, power, leak, degrees);
            }
            return number;
        }

        boolean hasPair(int first, int second) {
            return first != second && roomAt(first) != null && roomAt(second) != null;
        }

        int linkOf(int first, int second) {
            int place = linkPlace(first, second);
            return place >= 0 && place < links.length ? links[place] : 0;
        }

        void putLink(int first, int second, int link) {
            putLinkAt(linkPlace(first, second), link);
            putLinkAt(linkPlace(second, first), link);
        }

        private void putLinkAt(int place, int link) {
            if (place >= 0 && place < links.length) {
                links[place] = link;
            }
        }

        private static int linkPlace(int first, int second) {
            return first * MOST_ROOMS + second;
        }

        /** Tells whether the leak and all links of a room stay at most half of its capacity. */
        boolean canCarry(int number, int increase) {
            Room room = roomAt(number);
            if (room == null) {
                return false;
            }
            int sum = room.leak + increase;
            for (int other = 0; other < roomCount; other++) {
                sum += linkOf(number, other);
            }
            return sum <= room.capacity / 2;
        }

        boolean isSuspect(Room room) {
            return room.suspectMinutes >= number(SUSPECT_TIME);
        }

        int suspectRooms() {
            int sum = 0;
            for (int number = 0; number < roomCount; number++) {
                Room room = roomAt(number);
                sum += room != null && isSuspect(room) ? 1 : 0;
            }
            return sum;
        }

        int allFines() {
            int sum = 0;
            for (int number = 0; number < roomCount; number++) {
                Room room = roomAt(number);
                sum += room != null ? room.fines : 0;
            }
            return sum;
        }

        int heatFromHeaters() {
            int sum = 0;
            for (int number = 0; number < roomCount; number++) {
                Room room = roomAt(number);
                sum += room != null ? room.books.fromHeater : 0;
            }
            return sum;
        }

        /** Answers how often contacts closed or opened. */
        int passMinutes(int minutes) {
            int switched = 0;
            for (int minute = 0; minute < minutes; minute++) {
                switched += passMinute();
            }
            return switched;
        }

        int passMinute() {
            heatRooms();
            exchangeHeat();
            int switched = 0;
            for (int number = 0; number < roomCount; number++) {
                Room room = roomAt(number);
                if (room != null && settle(room)) {
                    switched++;
                }
            }
            time++;
            return switched;
        }

        private void heatRooms() {
            int outside = weather.temperatureAt(time);
            for (int number = 0; number < roomCount; number++) {
                Room room = roomAt(number);
                if (room != null) {
                    room.beginMinute(outside);
                }
            }
        }

        /**
         * The division rounds toward zero, so what the one room loses is just what the other one
         * would gain by its own reckoning, and each pair is looked at once.
         */
        private void exchangeHeat() {
            for (int first = 0; first < roomCount; first++) {
                for (int second = first + 1; second < roomCount; second++) {
                    Room one = roomAt(first);
                    Room other = roomAt(second);
                    if (one != null && other != null) {
                        int difference = one.minuteTemperature - other.minuteTemperature;
                        int flow = linkOf(first, second) * difference / 1000;
                        one.giveToOthers(flow);
                        other.giveToOthers(-flow);
                    }
                }
            }
        }

        /** Steps (a) to (e) of a minute; tells whether the contact closed or opened. */
        private boolean settle(Room room) {
            boolean wasClosed = room.closed;
            int temperature = room.temperature();
            if (temperature > number(CUTOUT_TEMPERATURE)) {
                room.tripped = true;
            }
            room.blade += (temperature - room.blade) * number(LAG) / 100;
            if (!room.closed && room.isBladeCold()) {
                close(room);
            } else if (room.closed && room.isBladeHot()) {
                room.tryToOpen(number(ATTEMPTS_TO_BREAK_FREE));
            }
            room.suspectMinutes = room.closed && room.isBladeHot() ? room.suspectMinutes + 1 : 0;
            return room.closed != wasClosed;
        }

        private void close(Room room) {
            if (room.closings > 0 && time - room.latestClosing < number(CYCLE_TIME)) {
                room.fines += number(FINE);
            }
            room.closed = true;
            room.closings++;
            room.latestClosing = time;
            room.wear += room.power;
            if (room.wear >= number(WELD_LIMIT)) {
                room.welded = true;
            }
        }
    }

    private static final class Room {
        final Books books = new Books();
        int capacity;
        int power;
        int leak;
        int heat;
        int point;
        int band;
        int blade;
        boolean closed;
        boolean welded;
        boolean tripped;
        int wear;
        int attempts;
        int closings;
        int latestClosing;
        int fines;
        int suspectMinutes;
        /** The temperature at the beginning of the minute: by it all heats change at the same time. */
        int minuteTemperature;

        /** Sets every field: after undo() the place of a room may hold what is left of another one. */
        void begin(int newCapacity, int newPower, int newLeak, int degrees) {
            capacity = newCapacity;
            power = newPower;
            leak = newLeak;
            heat = newCapacity * degrees;
            point = 20000;
            band = 1000;
            blade = temperature();
            closed = false;
            welded = false;
            tripped = false;
            wear = 0;
            attempts = 0;
            closings = 0;
            latestClosing = NONE;
            fines = 0;
            suspectMinutes = 0;
            minuteTemperature = 0;
            books.begin(heat);
        }

        void copyFrom(Room other) {
            books.copyFrom(other.books);
            capacity = other.capacity;
            power = other.power;
            leak = other.leak;
            heat = other.heat;
            point = other.point;
            band = other.band;
            blade = other.blade;
            closed = other.closed;
            welded = other.welded;
            tripped = other.tripped;
            wear = other.wear;
            attempts = other.attempts;
            closings = other.closings;
            latestClosing = other.latestClosing;
            fines = other.fines;
            suspectMinutes = other.suspectMinutes;
            minuteTemperature = other.minuteTemperature;
        }

        int temperature() {
            return temperatureWith(heat);
        }

        /** A room that has not begun has no capacity to divide by. */
        int temperatureWith(int someHeat) {
            return capacity > 0 ? Math.floorDiv(1000 * someHeat, capacity) : 0;
        }

        boolean isBladeCold() {
            return blade <= point - band;
        }

        boolean isBladeHot() {
            return blade >= point + band;
        }

        void bringIn(int amount) {
            heat += amount;
            books.byWarm += amount;
        }

        void beginMinute(int outside) {
            minuteTemperature = temperature();
            if (closed && !tripped) {
                heat += power;
                books.fromHeater += power;
            }
            int leaked = leak * (minuteTemperature - outside) / 1000;
            heat -= leaked;
            books.toOutside += leaked;
        }

        void giveToOthers(int amount) {
            heat -= amount;
            books.toOthers += amount;
        }

        void tryToOpen(int attemptsToBreakFree) {
            if (!welded) {
                closed = false;
                return;
            }
            attempts++;
            if (attempts >= attemptsToBreakFree) {
                closed = false;
                welded = false;
                attempts = 0;
                wear /= 2;
            }
        }

        void renewContact() {
            wear = 0;
            attempts = 0;
            welded = false;
            closed = false;
        }

        int property(int what) {
            switch (what) {
                case 0:
                    return temperature();
                case 1:
                    return heat;
                case 2:
                    return blade;
                case 3:
                    return closed ? 1 : 0;
                case 4:
                    return welded ? 1 : 0;
                case 5:
                    return wear;
                case 6:
                    return attempts;
                case 7:
                    return closings;
                case 8:
                    return fines;
                case 9:
                    return suspectMinutes;
                case 10:
                    return tripped ? 1 : 0;
                case 11:
                    return latestClosing;
                case 12:
                    return point;
                case 13:
                    return band;
                default:
                    return INVALID_ARGUMENT;
            }
        }
    }

    /** The sums of a room: its heat is always firstHeat + fromHeater - toOutside - toOthers + byWarm. */
    private static final class Books {
        int firstHeat;
        int fromHeater;
        int toOutside;
        int toOthers;
        int byWarm;

        void begin(int heat) {
            firstHeat = heat;
            fromHeater = 0;
            toOutside = 0;
            toOthers = 0;
            byWarm = 0;
        }

        void copyFrom(Books other) {
            firstHeat = other.firstHeat;
            fromHeater = other.fromHeater;
            toOutside = other.toOutside;
            toOthers = other.toOthers;
            byWarm = other.byWarm;
        }

        int sum(int what) {
            switch (what) {
                case 0:
                    return firstHeat;
                case 1:
                    return fromHeater;
                case 2:
                    return toOutside;
                case 3:
                    return toOthers;
                case 4:
                    return byWarm;
                default:
                    return INVALID_ARGUMENT;
            }
        }
    }

    /** The points of the outside temperature, their minutes rising. */
    private static final class Weather {
        private final int[] minutes = new int[MOST_POINTS];
        private final int[] degrees = new int[MOST_POINTS];
        int size;

        void copyFrom(Weather other) {
            System.arraycopy(other.minutes, 0, minutes, 0, MOST_POINTS);
            System.arraycopy(other.degrees, 0, degrees, 0, MOST_POINTS);
            size = other.size;
        }

        /** Tells whether a point of that minute can be put behind the others. */
        boolean canTake(int minute) {
            if (size < 0 || size >= MOST_POINTS || minute > LAST_WEATHER_MINUTE) {
                return false;
            }
            return size == 0 || minute > minutes[size - 1];
        }

        void add(int minute, int temperature) {
            if (size >= 0 && size < MOST_POINTS) {
                minutes[size] = minute;
                degrees[size] = temperature;
                size++;
            }
        }

        int temperatureAt(int minute) {
            int latest = 0;
            for (int point = 0; point < size && point < MOST_POINTS; point++) {
                if (minute < minutes[point]) {
                    return point == 0 ? 1000 * degrees[0] : temperatureBefore(point, minute);
                }
                latest = 1000 * degrees[point];
            }
            return latest;
        }

        /** The temperature on the way to a point from the one before it. */
        private int temperatureBefore(int point, int minute) {
            if (point < 1 || point >= MOST_POINTS) {
                return 0;
            }
            int start = degrees[point - 1];
            int way = minutes[point] - minutes[point - 1];
            int done = minute - minutes[point - 1];
            return way == 0 ? 1000 * start
                    : 1000 * start + 1000 * (degrees[point] - start) * done / way;
        }
    }

    /** The text, and the reading of a weather from it. */
    private static final class WeatherText {
        static final int NO_ERROR = -1;
        private static final int END = -1;
        /** Stands for every number that no range takes: also one with a leading zero. */
        private static final int UNFIT = 1000000;

        private final int[] characters = new int[MOST_CHARACTERS];
        int length;
        private int position;

        /** Tells whether there was room for the character. */
        boolean append(int character) {
            if (length < 0 || length >= MOST_CHARACTERS) {
                return false;
            }
            characters[length] = character;
            length++;
            return true;
        }

        /** Answers the error position, or NO_ERROR; only then the weather is the one of the text. */
        int readInto(Weather weather) {
            weather.size = 0;
            position = 0;
            skipSpaces();
            if (here() == END) {
                return NO_ERROR;
            }
            int error = readPoint(weather);
            while (error == NO_ERROR && position < length) {
                if (here() != ';') {
                    return position;
                }
                position++;
                skipSpaces();
                error = readPoint(weather);
            }
            return error;
        }

        /** Reads a point and the spaces behind it. */
        private int readPoint(Weather weather) {
            if (!isDigitHere()) {
                return position;
            }
            int start = position;
            int minute = readNumber();
            if (!weather.canTake(minute)) {
                return start;
            }
            skipSpaces();
            if (here() != '=') {
                return position;
            }
            position++;
            skipSpaces();
            return readTemperature(weather, minute);
        }

        private int readTemperature(Weather weather, int minute) {
            int start = position;
            boolean isNegative = here() == '-';
            if (isNegative) {
                position++;
            }
            if (!isDigitHere()) {
                return position;
            }
            int degrees = readNumber();
            if (degrees > MOST_DEGREES) {
                return start;
            }
            weather.add(minute, isNegative ? -degrees : degrees);
            skipSpaces();
            return NO_ERROR;
        }

        private int readNumber() {
            boolean startsWithZero = here() == '0';
            int start = position;
            int number = 0;
            while (position < length && isDigitHere()) {
                // The bound keeps a hundred digits from running over.
                number = Math.min(10 * number + here() - '0', UNFIT);
                position++;
            }
            return startsWithZero && position > start + 1 ? UNFIT : number;
        }

        private void skipSpaces() {
            while (position < length && here() == ' ') {
                position++;
            }
        }

        private boolean isDigitHere() {
            return within(here(), '0', '9');
        }

        private int here() {
            return position >= 0 && position < length && position < MOST_CHARACTERS
                    ? characters[position] : END;
        }
    }

    /** The latest states, in a ring: a new one takes the place of the oldest. */
    private static final class History {
        private final Colony[] states = new Colony[MOST_SAVED];
        /** The place of the state that is saved next. */
        private int next;
        int size;

        History() {
            for (int place = 0; place < states.length; place++) {
                states[place] = new Colony();
            }
        }

        void save(Colony colony) {
            Colony state = stateAt(next);
            if (state != null) {
                state.copyFrom(colony);
                next = (next + 1) % MOST_SAVED;
                size = Math.min(size + 1, MOST_SAVED);
            }
        }

        /** Restores the state that was saved last, if there is one, and discards it. */
        void restore(Colony colony) {
            int latest = (next + MOST_SAVED - 1) % MOST_SAVED;
            Colony state = stateAt(latest);
            if (state != null && size > 0) {
                colony.copyFrom(state);
                next = latest;
                size--;
            }
        }

        private Colony stateAt(int place) {
            return place >= 0 && place < states.length ? states[place] : null;
        }
    }
}
