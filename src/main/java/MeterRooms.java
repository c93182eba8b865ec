/**
 * Rooms of a cold store that share a meter whose quarter hours must not be too dear.
 *
 * <p>What each method promises stands in ../shared/DOC.md. Every state that an object ever holds is
 * made in its constructor and used again, so that no call makes an object but for an exception.
 */
public final class MeterRooms {
    public static final int NONE = -1;

    private static final int MOST_ROOMS = 6;
    private static final int MOST_SIGNS = 120;
    private static final int MOST_REMEMBERED = 14;
    private static final int QUARTER = 15;

    private static final int MOST_LOAD = 50;
    private static final int LEAST_WISH = -300;
    private static final int MOST_BOUND = 200;
    private static final int LEAST_TEMPERATURE = -400;
    private static final int MOST_TEMPERATURE = 400;
    private static final int MOST_FROST = 100;

    private static final int MOST_RUN = 60;
    private static final int MOST_FORECAST = 240;
    private static final int MOST_SPARE = 9999;
    private static final int MOST_TURNS = 60;
    private static final int MOST_COMMANDS = 3;
    private static final int GROUP = 100000;
    private static final int LAST_TRIED_LIMIT = 9900;

    private static final int LIMIT = 0;
    private static final int FROST_TO_DEFROST = 4;
    private static final int[] LEAST_SETTING = {0, 0, 0, 1, 1, 1};
    private static final int[] MOST_SETTING = {9999, 14, 99, 50, 100, 30};

    // What a room does in a minute, with the numbers that does() answers.
    private static final int IS_DEFROSTED = 0;
    private static final int MUST_RUN = 1;
    private static final int MUST_BE_DEFROSTED = 2;
    private static final int RUNS = 3;
    private static final int WAITS = 4;
    private static final int BEGINS_DEFROST = 5;
    private static final int PUTS_DEFROST_OFF = 6;
    private static final int NOTHING = 7;
    private static final int NOT_THERE = 8;

    private final Reader reader;
    private final State fresh;
    private final State present;
    private final State trial;
    private final Memory memory;
    private final Slot slot0;
    private final Slot slot1;

    public MeterRooms() {
        reader = new Reader();
        fresh = new State();
        present = new State();
        trial = new State();
        memory = new Memory();
        slot0 = new Slot();
        slot1 = new Slot();
    }

    // ---- text

    public int append(int c) throws IllegalArgumentException, IllegalStateException {
        if (c < 0 || c > 255) {
            throw new IllegalArgumentException("c is not 0 to 255");
        }
        if (reader.text.isFull()) {
            throw new IllegalStateException("the text is full");
        }
        return reader.text.lengthen(c);
    }

    public int clearText() {
        return reader.text.empty();
    }

    public int errorPosition() {
        return reader.firstError();
    }

    public int load() throws IllegalStateException {
        if (reader.firstError() != NONE) {
            throw new IllegalStateException("the text is not a store");
        }
        present.copyFrom(fresh);
        memory.forgetAll();
        slot0.empty();
        slot1.empty();
        int leftOut = 0;
        reader.start();
        for (int k = 0; k < MOST_SIGNS && reader.readsCommand(); k++) {
            if (!doCommand()) {
                leftOut++;
            }
        }
        return leftOut;
    }

    private boolean doCommand() {
        switch (reader.command) {
            case 'r':
                return present.takeRoom(reader.number, reader.wish, reader.bound) != NONE;
            case 'o':
                return present.moveDoor(reader.number, true);
            case 'z':
                return present.moveDoor(reader.number, false);
            case 'm':
                return present.passMinutes(reader.number);
            default:
                return present.changeSetting(LIMIT, reader.number);
        }
    }

    // ---- what there is

    public int about(int what) throws IllegalArgumentException {
        if (what < 0 || what > 10) {
            throw new IllegalArgumentException("what is not 0 to 10");
        }
        return present.account(what);
    }

    public int room(int i, int what) throws IndexOutOfBoundsException, IllegalArgumentException {
        Room room = present.roomAt(i);
        if (room == null) {
            throw new IndexOutOfBoundsException("there is no such room");
        }
        if (what < 0 || what > 7) {
            throw new IllegalArgumentException("what is not 0 to 7");
        }
        return room.property(what);
    }

    public int does(int i) throws IndexOutOfBoundsException {
        Room room = present.roomAt(i);
        if (room == null) {
            throw new IndexOutOfBoundsException("there is no such room");
        }
        present.planMinute();
        return room.plan;
    }

    public int setting(int what) throws IllegalArgumentException {
        if (!Settings.isSetting(what)) {
            throw new IllegalArgumentException("what is not 0 to 5");
        }
        return present.settings.value(what);
    }

    // ---- actions

    public int add(int load, int wish, int bound) throws IllegalArgumentException, IllegalStateException {
        if (!State.canBeRoom(load, wish, bound)) {
            throw new IllegalArgumentException("load, wish or bound is out of its range");
        }
        if (present.firstFree() == null) {
            throw new IllegalStateException("there are 6 rooms");
        }
        memory.remember(present);
        return present.takeRoom(load, wish, bound);
    }

    public int door(int i, boolean open) throws IndexOutOfBoundsException {
        if (present.roomAt(i) == null) {
            throw new IndexOutOfBoundsException("there is no such room");
        }
        memory.remember(present);
        present.moveDoor(i, open);
        return present.openDoors();
    }

    public int goods(int i, int v) throws IndexOutOfBoundsException, IllegalArgumentException {
        Room room = present.roomAt(i);
        if (room == null) {
            throw new IndexOutOfBoundsException("there is no such room");
        }
        if (!State.canBeTemperature(v)) {
            throw new IllegalArgumentException("v is not -400 to 400");
        }
        memory.remember(present);
        int previous = room.temperature;
        present.takeGoods(i, v);
        return previous;
    }

    public int run(int n) throws IllegalArgumentException {
        if (!State.canPass(n)) {
            throw new IllegalArgumentException("n is not 1 to 60");
        }
        memory.remember(present);
        int unitsBefore = present.units;
        present.passMinutes(n);
        return present.units - unitsBefore;
    }

    public int set(int what, int v) throws IllegalArgumentException {
        if (!Settings.isAllowed(what, v)) {
            throw new IllegalArgumentException("what or v is out of its range");
        }
        memory.remember(present);
        int previous = present.settings.value(what);
        present.changeSetting(what, v);
        return previous;
    }

    public int undo() throws IllegalStateException {
        if (memory.isEmpty()) {
            throw new IllegalStateException("no state is remembered");
        }
        memory.takeBack(present);
        return memory.count;
    }

    // ---- what would be

    public int spare() {
        return present.spareKilowatts();
    }

    public int warmIn(int i) throws IndexOutOfBoundsException {
        trial.copyFrom(present);
        Room room = trial.roomAt(i);
        if (room == null) {
            throw new IndexOutOfBoundsException("there is no such room");
        }
        int behind = 0;
        while (behind < MOST_FORECAST && !room.isWarm()) {
            trial.passMinute();
            behind++;
        }
        return room.isWarm() ? behind : NONE;
    }

    public int coming(int n, int what) throws IllegalArgumentException {
        if (n < 1 || n > MOST_FORECAST || what < 0 || what > 4) {
            throw new IllegalArgumentException("n is not 1 to 240, or what is not 0 to 4");
        }
        trial.copyFrom(present);
        for (int k = 0; k < n; k++) {
            trial.passMinute();
        }
        switch (what) {
            case 0:
                return trial.units - present.units;
            case 1:
                return trial.passed - present.passed;
            case 2:
                return trial.begun - present.begun;
            case 3:
                return trial.waited - present.waited;
            default:
                return trial.warmestRoom();
        }
    }

    public int leastLimit(int n) throws IllegalArgumentException {
        if (!State.canPass(n)) {
            throw new IllegalArgumentException("n is not 1 to 60");
        }
        // A higher limit lets more run, so it may be passed where a lower one is kept: each is tried.
        for (int limit = 0; limit <= LAST_TRIED_LIMIT; limit += 100) {
            if (isKept(limit, n)) {
                return limit;
            }
        }
        return NONE;
    }

    private boolean isKept(int limit, int n) {
        trial.copyFrom(present);
        trial.changeSetting(LIMIT, limit);
        for (int k = 0; k < n && trial.passed == present.passed; k++) {
            trial.passMinute();
        }
        return trial.passed == present.passed;
    }

    public int bestShut() {
        int best = NONE;
        int leastWarmth = 0;
        for (int i = 0; i < MOST_ROOMS; i++) {
            Room room = present.roomAt(i);
            if (room == null || !room.open) {
                continue;
            }
            int warmth = warmthIfShut(i);
            if (best == NONE || warmth < leastWarmth) {
                best = i;
                leastWarmth = warmth;
            }
        }
        return best;
    }

    private int warmthIfShut(int i) {
        trial.copyFrom(present);
        trial.moveDoor(i, false);
        trial.passMinutes(QUARTER);
        Room room = trial.roomAt(i);
        return room == null ? 0 : room.warmth();
    }

    // ---- scripts, simulations

    public int runScript(int n, long script) throws IllegalArgumentException {
        if (n < 1 || n > MOST_COMMANDS || script < 0 || withoutGroups(script, n) != 0) {
            throw new IllegalArgumentException("n is not 1 to 3, or script has not 1 to 5 * n digits");
        }
        trial.copyFrom(present);
        for (int k = 0; k < n; k++) {
            if (!doGroup((int) (withoutGroups(script, n - 1 - k) % GROUP))) {
                return k;
            }
        }
        return NONE;
    }

    private static long withoutGroups(long script, int groups) {
        long rest = script;
        for (int k = 0; k < groups; k++) {
            rest /= GROUP;
        }
        return rest;
    }

    /** Does the command of a group, whose digits are one for its kind, i, and three more; tells if it succeeds. */
    private boolean doGroup(int group) {
        int i = group / 1000 % 10;
        int rest = group % 1000;
        switch (group / 10000) {
            case 1:
                return (rest == 0 || rest == 100) && trial.moveDoor(i, rest == 100);
            case 2:
                // A third digit other than 0 makes more minutes than can pass.
                return i == 0 && trial.passMinutes(rest);
            case 3:
                return i == 0 && rest == 0 && trial.passMinutes(QUARTER);
            case 4:
                return rest % 10 == 0 && trial.changeSetting(i, rest / 10);
            case 5:
                return rest % 10 == 0 && trial.takeGoods(i, rest / 10);
            case 8:
                return i == 0 && rest < 100 && trial.passed <= rest;
            default:
                return isSo(group / 10000, trial.roomAt(i), rest);
        }
    }

    private boolean isSo(int question, Room room, int rest) {
        if (room == null) {
            return false;
        }
        switch (question) {
            case 6:
                return rest % 10 == 0 && room.frost <= rest / 10;
            case 7:
                trial.planMinute();
                return room.plan == rest;
            case 9:
                return rest == (room.isWarm() ? 1 : 0);
            default:
                return false;
        }
    }

    public int simulate(long seed, int m) throws IllegalArgumentException {
        if (m < 1 || m > MOST_TURNS) {
            throw new IllegalArgumentException("m is not 1 to 60");
        }
        trial.copyFrom(present);
        long x = seed;
        for (int k = 0; k < m; k++) {
            x = x * 6364136223846793005L + 1442695040888963407L;
            doTurn((int) (x >>> 33));
        }
        return 1000 * (trial.passed - present.passed) + (trial.begun - present.begun);
    }

    private void doTurn(int r) {
        int q = r / 8;
        switch (r % 8) {
            case 0:
            case 1:
                trial.moveDoor(q % 6, q / 8 % 3 == 0);
                break;
            case 2:
                trial.takeGoods(q % 6, q / 8 % 401 - 200);
                break;
            case 3:
                trial.changeSetting(LIMIT, q % 1000);
                break;
            case 4:
                trial.changeSetting(FROST_TO_DEFROST, 1 + q % 100);
                break;
            default:
                trial.passMinutes(1 + q % 15);
                break;
        }
    }

    // ---- save slots

    public int save(int slot) throws IndexOutOfBoundsException {
        Slot place = slotAt(slot);
        if (place == null) {
            throw new IndexOutOfBoundsException("there is no such save slot");
        }
        place.keep(present);
        return present.minutes;
    }

    public int restore(int slot) throws IndexOutOfBoundsException, IllegalStateException {
        Slot place = slotAt(slot);
        if (place == null) {
            throw new IndexOutOfBoundsException("there is no such save slot");
        }
        if (!place.isFilled) {
            throw new IllegalStateException("nothing is saved in this slot");
        }
        present.copyFrom(place.state);
        memory.forgetAll();
        return present.minutes;
    }

    private Slot slotAt(int slot) {
        if (slot == 0) {
            return slot0;
        }
        return slot == 1 ? slot1 : null;
    }

    /** The text buffer. */
    private static final class Text {
        private final char[] signs;
        private int length;

        Text() {
            signs = new char[MOST_SIGNS];
        }

        boolean isFull() {
            return length >= signs.length;
        }

        int lengthen(int c) {
            if (length >= 0 && length < signs.length) {
                signs[length] = (char) c;
                length++;
            }
            return length;
        }

        int empty() {
            int previous = length;
            length = 0;
            return previous;
        }

        /** Returns NONE behind the end, which no rule of a text allows at any place. */
        int signAt(int i) {
            if (i >= 0 && i < length && i < signs.length) {
                return signs[i];
            }
            return NONE;
        }
    }

    /** Reads a text from left to right, and stands still at the first sign that is not allowed. */
    private static final class Reader {
        private final Text text;
        private int position;
        private boolean isStuck;
        private int command;
        private int number;
        private int wish;
        private int bound;

        Reader() {
            text = new Text();
        }

        int firstError() {
            start();
            boolean isRead = true;
            for (int k = 0; k < MOST_SIGNS && isRead; k++) {
                isRead = readsCommand();
            }
            return isStuck ? position : NONE;
        }

        void start() {
            position = 0;
            isStuck = false;
            moveIf(text.signAt(0) == 'M');
        }

        /** Answers false at the end of the text, and at an error. */
        boolean readsCommand() {
            if (isStuck || text.signAt(position) == NONE) {
                return false;
            }
            command = text.signAt(position);
            moveIf(isCommand(command));
            if (isStuck) {
                return false;
            }
            switch (command) {
                case 'r':
                    number = readNumber(2, 1, MOST_LOAD);
                    wish = readTemperature();
                    bound = readTemperature();
                    break;
                case 'm':
                    number = readNumber(2, 1, MOST_RUN);
                    break;
                case 'l':
                    number = readNumber(4, 0, 9999);
                    break;
                default:
                    number = readNumber(1, 0, MOST_ROOMS - 1);
                    break;
            }
            return !isStuck;
        }

        private static boolean isCommand(int sign) {
            return sign == 'r' || sign == 'o' || sign == 'z' || sign == 'm' || sign == 'l';
        }

        private void moveIf(boolean isAllowed) {
            if (isAllowed && !isStuck) {
                position++;
            } else {
                isStuck = true;
            }
        }

        private int readTemperature() {
            int sign = text.signAt(position);
            moveIf(sign == '+' || sign == '-');
            if (sign == '-') {
                return -readNumber(3, 0, -LEAST_WISH);
            }
            return readNumber(3, 0, MOST_BOUND);
        }

        private int readNumber(int digits, int least, int most) {
            int read = 0;
            for (int k = 1; k <= digits; k++) {
                int sign = text.signAt(position);
                int longer = read * 10 + sign - '0';
                moveIf(sign >= '0' && sign <= '9' && isBegun(longer, digits - k, least, most));
                if (isStuck) {
                    return 0;
                }
                read = longer;
            }
            return read;
        }

        /** Tells whether an allowed number begins with these digits and has so many more. */
        private static boolean isBegun(int digits, int more, int least, int most) {
            int first = digits;
            int last = digits;
            for (int k = 0; k < more; k++) {
                first = first * 10;
                last = last * 10 + 9;
            }
            return first <= most && last >= least;
        }
    }

    /** The six settings. */
    private static final class Settings {
        private int limit = 600;
        private int ahead = 0;
        private int others = 10;
        private int heater = 12;
        private int frostToDefrost = 30;
        private int defrostMinutes = 6;

        void copyFrom(Settings other) {
            limit = other.limit;
            ahead = other.ahead;
            others = other.others;
            heater = other.heater;
            frostToDefrost = other.frostToDefrost;
            defrostMinutes = other.defrostMinutes;
        }

        static boolean isSetting(int what) {
            return what >= 0 && what < LEAST_SETTING.length && what < MOST_SETTING.length;
        }

        static boolean isAllowed(int what, int v) {
            return isSetting(what) && v >= LEAST_SETTING[what] && v <= MOST_SETTING[what];
        }

        int value(int what) {
            switch (what) {
                case 0:
                    return limit;
                case 1:
                    return ahead;
                case 2:
                    return others;
                case 3:
                    return heater;
                case 4:
                    return frostToDefrost;
                default:
                    return defrostMinutes;
            }
        }

        void change(int what, int v) {
            switch (what) {
                case 0:
                    limit = v;
                    break;
                case 1:
                    ahead = v;
                    break;
                case 2:
                    others = v;
                    break;
                case 3:
                    heater = v;
                    break;
                case 4:
                    frostToDefrost = v;
                    break;
                default:
                    defrostMinutes = v;
                    break;
            }
        }
    }

    /** A place for a room; while its load is 0, no room is there. */
    private static final class Room {
        private final int number;
        private int load;
        private int wish;
        private int bound;
        private int temperature;
        private boolean open;
        private int frost;
        private int defrostLeft;
        private int ran;
        // Found anew for each minute, so it is no part of the state.
        private int plan;

        Room(int number) {
            this.number = number;
        }

        boolean isThere() {
            return load > 0;
        }

        void fill(int newLoad, int newWish, int newBound) {
            load = newLoad;
            wish = newWish;
            bound = newBound;
            temperature = newWish;
            open = false;
            frost = 0;
            defrostLeft = 0;
            ran = 0;
        }

        void copyFrom(Room other) {
            load = other.load;
            wish = other.wish;
            bound = other.bound;
            temperature = other.temperature;
            open = other.open;
            frost = other.frost;
            defrostLeft = other.defrostLeft;
            ran = other.ran;
        }

        int property(int what) {
            switch (what) {
                case 0:
                    return load;
                case 1:
                    return wish;
                case 2:
                    return bound;
                case 3:
                    return temperature;
                case 4:
                    return open ? 1 : 0;
                case 5:
                    return frost;
                case 6:
                    return defrostLeft;
                default:
                    return ran;
            }
        }

        int warmth() {
            return temperature - bound;
        }

        boolean isWarm() {
            return temperature >= bound;
        }

        int planMust() {
            if (load == 0) {
                return NOT_THERE;
            }
            if (defrostLeft > 0) {
                return IS_DEFROSTED;
            }
            if (temperature >= bound) {
                return MUST_RUN;
            }
            return frost >= MOST_FROST ? MUST_BE_DEFROSTED : NOTHING;
        }

        boolean isHeated() {
            return plan == IS_DEFROSTED || plan == MUST_BE_DEFROSTED || plan == BEGINS_DEFROST;
        }

        boolean isCooled() {
            return plan == MUST_RUN || plan == RUNS;
        }

        void changeTemperature() {
            int change = 1;
            if (isHeated()) {
                change = 6;
            } else if (isCooled()) {
                change = -(8 - frost / 20);
            }
            if (open) {
                change += 4;
            }
            temperature = Math.max(LEAST_TEMPERATURE, Math.min(MOST_TEMPERATURE, temperature + change));
        }

        void changeFrost() {
            if (isHeated()) {
                frost = Math.max(0, frost - 10);
                defrostLeft = frost == 0 ? 0 : defrostLeft - 1;
                return;
            }
            int more = (isCooled() ? 1 : 0) + (open ? 2 : 0);
            frost = Math.min(MOST_FROST, frost + more);
        }
    }

    /** All that an undo brings back: the settings, the rooms, the meter and the accounts. */
    private static final class State {
        private final Settings settings;
        private final Room[] rooms;
        private int minutes;
        private int sum;
        private int passed;
        private int greatestSum;
        private int units;
        private int begun;
        private int waited;
        private int putOff;
        private int warmMinutes;

        State() {
            settings = new Settings();
            rooms = new Room[MOST_ROOMS];
            for (int i = 0; i < rooms.length; i++) {
                rooms[i] = new Room(i);
            }
        }

        void copyFrom(State other) {
            settings.copyFrom(other.settings);
            for (int i = 0; i < rooms.length && i < other.rooms.length; i++) {
                rooms[i].copyFrom(other.rooms[i]);
            }
            minutes = other.minutes;
            sum = other.sum;
            passed = other.passed;
            greatestSum = other.greatestSum;
            units = other.units;
            begun = other.begun;
            waited = other.waited;
            putOff = other.putOff;
            warmMinutes = other.warmMinutes;
        }

        int account(int what) {
            switch (what) {
                case 0:
                    return countRooms();
                case 1:
                    return minutes;
                case 2:
                    return sum;
                case 3:
                    return minutesLeft();
                case 4:
                    return passed;
                case 5:
                    return greatestSum;
                case 6:
                    return units;
                case 7:
                    return begun;
                case 8:
                    return waited;
                case 9:
                    return putOff;
                default:
                    return warmMinutes;
            }
        }

        /** Returns null if there is no such room. */
        Room roomAt(int i) {
            if (i < 0 || i >= rooms.length) {
                return null;
            }
            Room room = rooms[i];
            return room.isThere() ? room : null;
        }

        /** Returns null if all rooms are taken. */
        Room firstFree() {
            for (Room room : rooms) {
                if (!room.isThere()) {
                    return room;
                }
            }
            return null;
        }

        private int countRooms() {
            Room free = firstFree();
            return free == null ? rooms.length : free.number;
        }

        int openDoors() {
            int count = 0;
            for (Room room : rooms) {
                if (room.isThere() && room.open) {
                    count++;
                }
            }
            return count;
        }

        /** Returns the room that is warmest, as its temperature less its bound tells; NONE without rooms. */
        int warmestRoom() {
            Room warmest = null;
            for (Room room : rooms) {
                if (room.isThere() && (warmest == null || room.warmth() > warmest.warmth())) {
                    warmest = room;
                }
            }
            return warmest == null ? NONE : warmest.number;
        }

        static boolean canBeRoom(int load, int wish, int bound) {
            return load >= 1 && load <= MOST_LOAD
                    && wish >= LEAST_WISH && wish < bound && bound <= MOST_BOUND;
        }

        static boolean canPass(int n) {
            return n >= 1 && n <= MOST_RUN;
        }

        static boolean canBeTemperature(int v) {
            return v >= LEAST_TEMPERATURE && v <= MOST_TEMPERATURE;
        }

        // The changes below do nothing, and answer NONE or false, where the method of the face throws.

        int takeRoom(int load, int wish, int bound) {
            Room free = firstFree();
            if (free == null || !canBeRoom(load, wish, bound)) {
                return NONE;
            }
            free.fill(load, wish, bound);
            return free.number;
        }

        boolean moveDoor(int i, boolean open) {
            Room room = roomAt(i);
            if (room == null) {
                return false;
            }
            room.open = open;
            return true;
        }

        boolean takeGoods(int i, int v) {
            Room room = roomAt(i);
            if (room == null || !canBeTemperature(v)) {
                return false;
            }
            room.temperature = v;
            return true;
        }

        boolean changeSetting(int what, int v) {
            if (!Settings.isAllowed(what, v)) {
                return false;
            }
            settings.change(what, v);
            return true;
        }

        boolean passMinutes(int n) {
            if (!canPass(n)) {
                return false;
            }
            for (int k = 0; k < n; k++) {
                passMinute();
            }
            return true;
        }

        void passMinute() {
            takeUnits(planMinute() + settings.others);
            for (Room room : rooms) {
                if (room.isThere()) {
                    beginDefrost(room);
                    room.changeTemperature();
                    room.changeFrost();
                    countMinute(room);
                }
            }
            minutes++;
        }

        private void beginDefrost(Room room) {
            if (room.plan == MUST_BE_DEFROSTED || room.plan == BEGINS_DEFROST) {
                room.defrostLeft = settings.defrostMinutes;
                begun++;
            }
        }

        private void countMinute(Room room) {
            room.ran += room.isCooled() ? 1 : 0;
            waited += room.plan == WAITS ? 1 : 0;
            putOff += room.plan == PUTS_DEFROST_OFF ? 1 : 0;
            warmMinutes += room.isWarm() ? 1 : 0;
        }

        private void takeUnits(int taken) {
            sum += taken;
            units += taken;
            if (minutesLeft() == 1) {
                passed += sum > settings.limit ? 1 : 0;
                greatestSum = Math.max(greatestSum, sum);
                sum = 0;
            }
        }

        int minutesLeft() {
            return QUARTER - (minutes + settings.ahead) % QUARTER;
        }

        /** Returns the greatest load that fits ahead of all that is taken; NONE if not even 0 does. */
        int spareKilowatts() {
            int left = minutesLeft();
            int unitsLeft = settings.limit - sum;
            if (unitsLeft < 0 || left < 1) {
                return NONE;
            }
            // Rounded down, as a kilowatt costs a unit in each of the minutes that are left.
            int spare = unitsLeft / left - settings.others;
            return spare < 0 ? NONE : Math.min(spare, MOST_SPARE);
        }

        /** Finds what each room does in the next minute; returns the kilowatts of all that runs. */
        int planMinute() {
            // A load fits if, with all that is taken before it, it is not more than this.
            int spare = spareKilowatts();
            int taken = planMusts();
            taken = planCompressors(taken, spare);
            return planDefrosts(taken, spare);
        }

        private int planMusts() {
            int taken = 0;
            for (Room room : rooms) {
                room.plan = room.planMust();
                if (room.isHeated()) {
                    taken += settings.heater;
                } else if (room.isCooled()) {
                    taken += room.load;
                }
            }
            return taken;
        }

        private int planCompressors(int takenBefore, int spare) {
            int taken = takenBefore;
            for (int k = 0; k < MOST_ROOMS; k++) {
                Room room = nextToCool();
                if (room == null) {
                    break;
                }
                if (taken + room.load <= spare) {
                    room.plan = RUNS;
                    taken += room.load;
                } else {
                    room.plan = WAITS;
                }
            }
            return taken;
        }

        private int planDefrosts(int takenBefore, int spare) {
            int taken = takenBefore;
            for (int k = 0; k < MOST_ROOMS; k++) {
                Room room = nextToDefrost();
                if (room == null) {
                    break;
                }
                if (taken + settings.heater <= spare) {
                    room.plan = BEGINS_DEFROST;
                    taken += settings.heater;
                } else {
                    room.plan = PUTS_DEFROST_OFF;
                }
            }
            return taken;
        }

        private Room nextToCool() {
            Room next = null;
            int mostAbove = 0;
            for (Room room : rooms) {
                int above = room.temperature - room.wish;
                if (room.plan == NOTHING && above > mostAbove) {
                    next = room;
                    mostAbove = above;
                }
            }
            return next;
        }

        private Room nextToDefrost() {
            Room next = null;
            int mostFrost = settings.frostToDefrost - 1;
            for (Room room : rooms) {
                if (room.plan == NOTHING && room.frost > mostFrost) {
                    next = room;
                    mostFrost = room.frost;
                }
            }
            return next;
        }
    }

    /** The remembered states, the oldest one first. */
    private static final class Memory {
        private final State[] states;
        private int count;

        Memory() {
            states = new State[MOST_REMEMBERED];
            for (int i = 0; i < states.length; i++) {
                states[i] = new State();
            }
        }

        boolean isEmpty() {
            return count == 0;
        }

        void forgetAll() {
            count = 0;
        }

        void remember(State state) {
            if (count >= states.length) {
                forgetOldest();
            }
            if (count >= 0 && count < states.length) {
                states[count].copyFrom(state);
                count++;
            }
        }

        /** Puts the oldest state's object behind the others, to be written over. */
        private void forgetOldest() {
            for (int i = 1; i < states.length; i++) {
                State moved = states[i - 1];
                states[i - 1] = states[i];
                states[i] = moved;
            }
            count--;
        }

        void takeBack(State state) {
            if (count > 0 && count <= states.length) {
                count--;
                state.copyFrom(states[count]);
            }
        }
    }

    /** A save slot. */
    private static final class Slot {
        private final State state;
        private boolean isFilled;

        Slot() {
            state = new State();
        }

        void empty() {
            isFilled = false;
        }

        void keep(State kept) {
            state.copyFrom(kept);
            isFilled = true;
        }
    }
}
