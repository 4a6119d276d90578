/** A shaft encoder with two tracks and an index; ../shared/DOC.md says what each call answers. */
public final class StepPairs {
    public static final int NO_SUCH = -1, BAD_VALUE = -2, BAD_TEXT = -3, TOO_MANY = -4, NOT_POSSIBLE = -5, NONE = -6;
    public static final int TURN = 0, WRAP = 1, FILTER = 2, GATE = 3, INDEX = 4;

    private static final int MOST_TICKS = 99999;
    private static final int MOST_TICKS_FED = 99;
    private static final int MOST_STEPS_TURNED = 99;
    private static final int LOG_LENGTH = 200;
    private static final int PAD_LENGTH = 80;
    private static final int MOST_UNDONE = 6;
    private static final int SLOTS = 2;
    private static final int SPEED_OF_REST = 1000;

    private static final int[] LEAST_SETTING = {4, 10, 1, 1, 0};
    private static final int[] MOST_SETTING = {400, 9999, 9, 99, 2};
    private static final int[] FIRST_SETTING = {40, 1000, 1, 10, 1};
    private static final int SETTINGS = 5;

    /** What an encoder does in a tick; the first two steps also stand for the directions. */
    private static final int NOTHING = 0, FORWARDS = 1, BACKWARDS = 2, ILLEGAL = 3;

    private static final int INDEX_CHECKS = 1, INDEX_RESETS = 2;

    private final Encoder encoder;
    private final Encoder trial;
    private final History history;
    private final Slots slots;
    private final Pad pad;

    public StepPairs() {
        encoder = new Encoder();
        trial = new Encoder();
        history = new History();
        slots = new Slots();
        pad = new Pad();
    }

    // ---- changes

    public int set(int setting, int value) {
        history.prepare(encoder);
        return history.keepUnlessError(encoder.adjust(setting, value));
    }

    public int feed(int pair, int index, int ticks) {
        history.prepare(encoder);
        return history.keepUnlessError(encoder.pass(pair, index, ticks));
    }

    public int turn(int steps) {
        history.prepare(encoder);
        return history.keepUnlessError(encoder.revolve(steps));
    }

    public int zero() {
        history.prepare(encoder);
        return history.keepUnlessError(encoder.clear());
    }

    // ---- what there is

    public int log(int ago, int what) {
        if (!encoder.hasTick(ago)) {
            return NO_SUCH;
        }
        switch (what) {
            case 0:
                return encoder.pairAt(ago);
            case 1:
                return encoder.indexAt(ago);
            case 2:
                return encoder.deedAt(ago);
            default:
                return BAD_VALUE;
        }
    }

    public int count(int what) {
        switch (what) {
            case 0:
                return encoder.ticks;
            case 1:
                return encoder.count;
            case 2:
                return encoder.place;
            case 3:
                return encoder.seen;
            case 4:
                return encoder.direction;
            case 5:
                return encoder.forwards;
            case 6:
                return encoder.backwards;
            case 7:
                return encoder.illegal;
            case 8:
                return encoder.slips;
            case 9:
                return encoder.logged();
            case 15:
                return pad.length;
            case 16:
                return history.size;
            default:
                return what >= 10 && what <= 14 ? encoder.setting(what - 10) : BAD_VALUE;
        }
    }

    public int speed(int what) {
        switch (what) {
            case 0:
                return SPEED_OF_REST + encoder.stepsOfGate();
            case 1:
                return encoder.period > 0 ? encoder.period : NONE;
            default:
                return BAD_VALUE;
        }
    }

    public long rate() {
        int ticksOfTurn = encoder.period * encoder.setting(TURN);
        if (ticksOfTurn <= 0) {
            return 0L;
        }
        double one = encoder.direction == FORWARDS ? 1.0 : -1.0;
        return Bits.ofDouble(one / (double) ticksOfTurn);
    }

    public int noise() {
        int changes = encoder.forwards + encoder.backwards + encoder.illegal;
        if (changes <= 0) {
            return NONE;
        }
        return Bits.ofFloat((float) encoder.illegal / (float) changes);
    }

    // ---- what if; nothing changes

    public int replay(int filter, int what) {
        if (filter < LEAST_SETTING[FILTER] || filter > MOST_SETTING[FILTER] || what < 0 || what > 3) {
            return BAD_VALUE;
        }
        trial.follow(encoder, filter);
        switch (what) {
            case 0:
                return trial.forwards;
            case 1:
                return trial.backwards;
            case 2:
                return trial.illegal;
            default:
                return trial.count;
        }
    }

    public int bestFilter(int what) {
        if (what < 0 || what > 1) {
            return BAD_VALUE;
        }
        int best = 0;
        int fewest = 0;
        for (int filter = LEAST_SETTING[FILTER]; filter <= MOST_SETTING[FILTER]; filter++) {
            trial.follow(encoder, filter);
            if (best == 0 || trial.illegal < fewest) {
                best = filter;
                fewest = trial.illegal;
            }
        }
        return what == 0 ? best : fewest;
    }

    public int would(int pair) {
        return pair < 0 || pair > 3 ? BAD_VALUE : encoder.deedBy(pair);
    }

    public int deeds(int deed) {
        if (deed < NOTHING || deed > ILLEGAL) {
            return BAD_VALUE;
        }
        int found = 0;
        for (int ago = 0; ago < encoder.logged(); ago++) {
            if (encoder.deedAt(ago) == deed) {
                found++;
            }
        }
        return found;
    }

    // ---- texts

    public int put(long characters) {
        return pad.append(characters);
    }

    public int wipe() {
        return pad.empty();
    }

    public int fault() {
        return pad.firstFault();
    }

    public int carryOut() {
        if (pad.firstFault() != NONE) {
            return BAD_TEXT;
        }
        history.prepare(encoder);
        pad.begin();
        int carried = 0;
        while (carried < PAD_LENGTH && carryOrder() >= 0) {
            carried++;
            if (!pad.skip(';')) {
                break;
            }
        }
        pad.empty();
        return history.keepUnlessError(carried);
    }

    /** Carries out the order at which the pad is read, and returns its answer or its error. */
    private int carryOrder() {
        if (pad.skip('z')) {
            return encoder.clear();
        }
        if (pad.skip('n')) {
            return pad.readDigit() ? encoder.adjust(FILTER, pad.number) : BAD_TEXT;
        }
        if (pad.skip('f')) {
            return pad.readNumber() ? encoder.revolve(pad.number) : BAD_TEXT;
        }
        if (pad.skip('b')) {
            return pad.readNumber() ? encoder.revolve(-pad.number) : BAD_TEXT;
        }
        return carryRuns();
    }

    private int carryRuns() {
        for (int runs = 0; runs < PAD_LENGTH; runs++) {
            if (!pad.readRun()) {
                return BAD_TEXT;
            }
            int answer = encoder.pass(pad.pair, pad.index, pad.number);
            if (answer < 0 || !pad.skip(',')) {
                return answer;
            }
        }
        return BAD_TEXT;
    }

    // ---- undo, saving

    public int undo() {
        return history.takeBack(encoder);
    }

    public int save(int slot) {
        return slots.store(slot, encoder);
    }

    public int restore(int slot) {
        history.prepare(encoder);
        return history.keepUnlessError(slots.fetch(slot, encoder));
    }

    /** All that undo and the slots keep: the settings, the tracks with their log, and the counts. */
    private static final class Encoder {
        private final int[] settings;
        /** A row of ticks in a ring, each as pair + 4 * index + 8 * deed. */
        private final int[] log;
        int ticks;
        int count;
        int place;
        int seen;
        private int latestPair;
        private int latestIndex;
        /** How many of the latest ticks, side by side, had the latest pair. */
        private int run;
        int direction;
        int forwards;
        int backwards;
        int illegal;
        int slips;
        private int tickOfLatestStep;
        /** 0 if there is none. */
        int period;

        Encoder() {
            settings = new int[SETTINGS];
            log = new int[LOG_LENGTH];
            System.arraycopy(FIRST_SETTING, 0, settings, 0, SETTINGS);
        }

        static void copy(Encoder from, Encoder to) {
            if (from == null || to == null) {
                return;
            }
            System.arraycopy(from.settings, 0, to.settings, 0, SETTINGS);
            System.arraycopy(from.log, 0, to.log, 0, LOG_LENGTH);
            to.ticks = from.ticks;
            to.count = from.count;
            to.place = from.place;
            to.seen = from.seen;
            to.latestPair = from.latestPair;
            to.latestIndex = from.latestIndex;
            to.run = from.run;
            to.direction = from.direction;
            to.forwards = from.forwards;
            to.backwards = from.backwards;
            to.illegal = from.illegal;
            to.slips = from.slips;
            to.tickOfLatestStep = from.tickOfLatestStep;
            to.period = from.period;
        }

        /** Forgets everything but the settings. */
        private void restart() {
            ticks = 0;
            count = 0;
            place = 0;
            seen = 0;
            latestPair = 0;
            latestIndex = 0;
            run = 0;
            direction = 0;
            forwards = 0;
            backwards = 0;
            illegal = 0;
            slips = 0;
            tickOfLatestStep = 0;
            period = 0;
        }

        /** Starts anew and sees the ticks that another one's log has, with a filter of its own. */
        void follow(Encoder other, int filter) {
            if (other == null) {
                return;
            }
            restart();
            System.arraycopy(other.settings, 0, settings, 0, SETTINGS);
            settings[FILTER] = filter;
            for (int ago = other.logged() - 1; ago >= 0; ago--) {
                tick(other.pairAt(ago), other.indexAt(ago));
            }
        }

        int setting(int setting) {
            return setting >= 0 && setting < SETTINGS ? settings[setting] : 0;
        }

        int adjust(int setting, int value) {
            if (setting < 0 || setting >= SETTINGS) {
                return BAD_VALUE;
            }
            if (value < LEAST_SETTING[setting] || value > MOST_SETTING[setting]) {
                return BAD_VALUE;
            }
            if (setting == TURN && value % 4 != 0) {
                return BAD_VALUE;
            }
            int previous = settings[setting];
            settings[setting] = value;
            if (setting == TURN) {
                place = leftOver(place, value);
            }
            if (setting == WRAP) {
                count = leftOver(count, value);
            }
            return previous;
        }

        int pass(int pair, int index, int passing) {
            if (pair < 0 || pair > 3 || index < 0 || index > 1 || passing < 1 || passing > MOST_TICKS_FED) {
                return BAD_VALUE;
            }
            if (passing > MOST_TICKS - ticks) {
                return NOT_POSSIBLE;
            }
            int steps = 0;
            for (int i = 0; i < passing; i++) {
                int deed = tick(pair, index);
                if (deed == FORWARDS || deed == BACKWARDS) {
                    steps++;
                }
            }
            return steps;
        }

        int revolve(int steps) {
            if (steps == 0 || steps < -MOST_STEPS_TURNED || steps > MOST_STEPS_TURNED) {
                return BAD_VALUE;
            }
            int many = Math.abs(steps);
            int ticksOfStep = setting(FILTER);
            if (many * ticksOfStep > MOST_TICKS - ticks) {
                return NOT_POSSIBLE;
            }
            int way = steps > 0 ? 1 : -1;
            for (int step = 0; step < many; step++) {
                int pair = pairAlong(orderOf(seen) + way);
                for (int i = 0; i < ticksOfStep; i++) {
                    tick(pair, 0);
                }
            }
            return count;
        }

        int clear() {
            int previous = count;
            count = 0;
            place = 0;
            return previous;
        }

        private int tick(int pair, int index) {
            int deed = deedBy(pair);
            boolean indexRises = index == 1 && latestIndex == 0;
            run = runWith(pair);
            latestPair = pair;
            latestIndex = index;
            if (deed != NOTHING) {
                seen = pair;
            }
            if (deed == ILLEGAL) {
                illegal++;
            }
            if (deed == FORWARDS || deed == BACKWARDS) {
                step(deed);
            }
            if (indexRises) {
                meetIndex();
            }
            int at = ticks % LOG_LENGTH;
            if (at >= 0 && at < LOG_LENGTH) {
                log[at] = pair + 4 * index + 8 * deed;
            }
            ticks++;
            return deed;
        }

        /** What a tick with a pair would do. */
        int deedBy(int pair) {
            if (pair == seen || runWith(pair) < setting(FILTER)) {
                return NOTHING;
            }
            int ahead = (orderOf(pair) - orderOf(seen)) & 3;
            if (ahead == 1) {
                return FORWARDS;
            }
            return ahead == 3 ? BACKWARDS : ILLEGAL;
        }

        private int runWith(int pair) {
            return pair == latestPair ? run + 1 : 1;
        }

        private void step(int way) {
            int by = way == FORWARDS ? 1 : -1;
            if (way == FORWARDS) {
                forwards++;
            } else {
                backwards++;
            }
            count = leftOver(count + by, setting(WRAP));
            place = leftOver(place + by, setting(TURN));
            period = way == direction ? ticks - tickOfLatestStep : 0;
            direction = way;
            tickOfLatestStep = ticks;
        }

        private void meetIndex() {
            int use = setting(INDEX);
            if (use == INDEX_CHECKS && place != 0) {
                slips++;
                place = 0;
            }
            if (use == INDEX_RESETS) {
                place = 0;
                count = 0;
            }
        }

        int stepsOfGate() {
            int latest = Math.min(setting(GATE), logged());
            int steps = 0;
            for (int ago = 0; ago < latest; ago++) {
                int deed = deedAt(ago);
                if (deed == FORWARDS) {
                    steps++;
                }
                if (deed == BACKWARDS) {
                    steps--;
                }
            }
            return steps;
        }

        int logged() {
            return Math.min(ticks, LOG_LENGTH);
        }

        boolean hasTick(int ago) {
            return ago >= 0 && ago < logged();
        }

        private int entry(int ago) {
            if (!hasTick(ago)) {
                return 0;
            }
            int at = (ticks - 1 - ago) % LOG_LENGTH;
            return at >= 0 && at < LOG_LENGTH ? log[at] : 0;
        }

        int pairAt(int ago) {
            return entry(ago) & 3;
        }

        int indexAt(int ago) {
            return (entry(ago) >> 2) & 1;
        }

        int deedAt(int ago) {
            return entry(ago) >> 3;
        }

        /** Forwards the pairs are a Gray code: 0, 1, 3, 2 stand at 0, 1, 2, 3. */
        private static int orderOf(int pair) {
            return pair ^ (pair >> 1);
        }

        private static int pairAlong(int order) {
            int at = order & 3;
            return at ^ (at >> 1);
        }

        /** What a number, -1 or more, leaves over. */
        private static int leftOver(int number, int by) {
            return by > 0 ? (number + by) % by : 0;
        }
    }

    /** The states before the latest changes, in a ring. */
    private static final class History {
        // One row more than can be undone: a state is prepared there before it is known to be kept.
        private static final int ROWS = MOST_UNDONE + 1;

        private final Encoder[] rows;
        private int next;
        int size;

        History() {
            rows = new Encoder[ROWS];
            for (int i = 0; i < ROWS; i++) {
                rows[i] = new Encoder();
            }
        }

        private Encoder nextRow() {
            return next >= 0 && next < ROWS ? rows[next] : null;
        }

        void prepare(Encoder state) {
            Encoder.copy(state, nextRow());
        }

        /** Keeps the prepared state, unless the change answered an error; returns that answer. */
        int keepUnlessError(int answer) {
            if (answer >= 0) {
                next = (next + 1) % ROWS;
                size = Math.min(size + 1, MOST_UNDONE);
            }
            return answer;
        }

        int takeBack(Encoder state) {
            if (size == 0) {
                return NOT_POSSIBLE;
            }
            next = (next + ROWS - 1) % ROWS;
            size--;
            Encoder.copy(nextRow(), state);
            return size;
        }
    }

    private static final class Slots {
        private final Encoder[] rows;
        private final boolean[] used;

        Slots() {
            rows = new Encoder[SLOTS];
            used = new boolean[SLOTS];
            for (int i = 0; i < SLOTS; i++) {
                rows[i] = new Encoder();
            }
        }

        int store(int slot, Encoder state) {
            if (slot < 0 || slot >= SLOTS || state == null) {
                return BAD_VALUE;
            }
            Encoder.copy(state, rows[slot]);
            used[slot] = true;
            return state.count;
        }

        int fetch(int slot, Encoder state) {
            if (slot < 0 || slot >= SLOTS || state == null) {
                return BAD_VALUE;
            }
            if (!used[slot]) {
                return NOT_POSSIBLE;
            }
            Encoder.copy(rows[slot], state);
            return state.count;
        }
    }

    /** The text of orders, and a reader that goes along it. */
    private static final class Pad {
        private static final char PAST_END = 0;

        private final char[] characters;
        int length;
        private int position;
        /** What was read last. */
        int pair;
        int index;
        int number;

        Pad() {
            characters = new char[PAD_LENGTH];
        }

        int append(long appended) {
            int many = 0;
            for (long rest = appended; rest != 0 && many < 8; rest = rest >>> 8) {
                long code = rest & 255;
                if (code < 33 || code > 126) {
                    return BAD_VALUE;
                }
                many++;
            }
            if (many == 0) {
                return BAD_VALUE;
            }
            if (many > PAD_LENGTH - length) {
                return TOO_MANY;
            }
            for (int i = many - 1; i >= 0; i--) {
                if (length >= 0 && length < PAD_LENGTH) {
                    characters[length] = (char) ((appended >>> (8 * i)) & 255);
                    length++;
                }
            }
            return length;
        }

        int empty() {
            int previous = length;
            length = 0;
            return previous;
        }

        int firstFault() {
            begin();
            for (int orders = 0; orders <= PAD_LENGTH; orders++) {
                if (!readOrder()) {
                    return position;
                }
                if (!skip(';')) {
                    break;
                }
            }
            return position < length ? position : NONE;
        }

        void begin() {
            position = 0;
        }

        private char here() {
            return position >= 0 && position < length && position < PAD_LENGTH ? characters[position] : PAST_END;
        }

        boolean skip(char sign) {
            if (here() != sign) {
                return false;
            }
            position++;
            return true;
        }

        // Each reader stops at the first character that cannot stand there, so a failure's position is the fault.

        private boolean readOrder() {
            if (skip('z')) {
                return true;
            }
            if (skip('n')) {
                return readDigit();
            }
            if (skip('f') || skip('b')) {
                return readNumber();
            }
            return readRuns();
        }

        private boolean readRuns() {
            for (int runs = 0; runs < PAD_LENGTH; runs++) {
                if (!readRun()) {
                    return false;
                }
                if (!skip(',')) {
                    return true;
                }
            }
            return false;
        }

        boolean readRun() {
            if (here() < '0' || here() > '3') {
                return false;
            }
            pair = here() - '0';
            position++;
            index = skip('i') ? 1 : 0;
            number = 1;
            return !skip('*') || readNumber();
        }

        boolean readNumber() {
            number = 0;
            if (here() == '0') {
                position++;
                return true;
            }
            int digits = 0;
            while (digits < 3 && here() >= '0' && here() <= '9') {
                number = 10 * number + here() - '0';
                position++;
                digits++;
            }
            return digits > 0;
        }

        boolean readDigit() {
            if (here() < '1' || here() > '9') {
                return false;
            }
            number = here() - '0';
            position++;
            return true;
        }
    }

    /** The bits of numbers, by arithmetic alone: scaling by 2 is exact, so nothing is rounded. */
    private static final class Bits {
        private static final int MOST_SCALINGS = 2000;

        private Bits() {
        }

        /** Of a normal number from -1.0 to 1.0, or of 0.0. */
        static long ofDouble(double number) {
            if (number == 0.0) {
                return 0L;
            }
            double size = number < 0.0 ? -number : number;
            long exponent = 1023L;
            for (int i = 0; i < MOST_SCALINGS && size < 1.0; i++) {
                size = size * 2.0;
                exponent--;
            }
            long fraction = (long) ((size - 1.0) * 4503599627370496.0);
            long sign = number < 0.0 ? 1L : 0L;
            return (sign << 63) | (exponent << 52) | fraction;
        }

        /** Of a normal number up to 1.0, or of 0.0. */
        static int ofFloat(float number) {
            if (number == 0.0f) {
                return 0;
            }
            float size = number;
            int exponent = 127;
            for (int i = 0; i < MOST_SCALINGS && size < 1.0f; i++) {
                size = size * 2.0f;
                exponent--;
            }
            int fraction = (int) ((size - 1.0f) * 8388608.0f);
            return (exponent << 23) | fraction;
        }
    }
}
