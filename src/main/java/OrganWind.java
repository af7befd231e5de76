/** The wind of an organ, as the numbered promises of its document tell it. */
public final class OrganWind {
    public static final int BAD_INDEX = -1000001;
    public static final int BAD_VALUE = -1000002;
    public static final int NOT_POSSIBLE = -1000003;
    public static final int FULL = -1000004;
    public static final int NONE = -1000005;

    private static final int STOPS = 8;
    private static final int MANUALS = 2;
    private static final int KEYS = 24;
    private static final int FEEDERS = 2;
    private static final int SLOTS = 2;
    private static final int HISTORY = 5;
    private static final int TEXT_ROOM = 80;
    private static final int TELLS = 10;
    private static final int ALL_STOPS = 0xFF;
    private static final int ALL_KEYS = 0xFFFFFF;
    private static final int OCTAVE = 12;
    private static final int MOST_CIPHERS = 6;
    private static final int MOST_OFFSET = 200;
    private static final int MOST_TICKS = 200;
    private static final int MOST_FORECAST = 1000;
    private static final int FIRST_VOLUME = 3000;
    // No volume comes up to it, and no pitch, also not below 0.
    private static final int ABOVE_ALL = 1000000;

    private static final int SETTINGS = 9;
    private static final int WEIGHT = 0;
    private static final int LOSS = 1;
    private static final int LOW_MARK = 3;
    private static final int CAPACITY = 4;
    private static final int TARGET = 5;
    private static final int STROKE = 6;
    private static final int STROKE_TIME = 7;
    private static final int SLOPE = 8;
    private static final int[] LEAST_SETTING = {20, 0, 0, 100, 1000, 0, 10, 1, 0};
    private static final int[] MOST_SETTING = {200, 100, 100, 2000, 20000, 20000, 500, 8, 32};
    private static final int[] FIRST_SETTING = {80, 10, 10, 500, 6000, 4000, 120, 4, 8};

    private final State organ = new State();
    private final State forecast = new State();
    private final State[] history = new State[HISTORY];
    private final State[] slots = new State[SLOTS];
    private final boolean[] saved = new boolean[SLOTS];
    private final Text text = new Text();
    private final Wind wind = new Wind();
    private final Wind trial = new Wind();
    private int recorded;

    public OrganWind() {
        for (int i = 0; i < HISTORY; i++) {
            history[i] = new State();
        }
        for (int i = 0; i < SLOTS; i++) {
            slots[i] = new State();
        }
    }

    // ---- the organ

    public int layOut(int stop, int manual, int demand, int least) {
        if (!isStop(stop)) {
            return BAD_INDEX;
        }
        if (!isManual(manual) || !isWithin(demand, 1, 40) || !isWithin(least, 0, 200)) {
            return BAD_VALUE;
        }
        remember();
        int previous = organ.demand[stop];
        organ.manual[stop] = manual;
        organ.demand[stop] = demand;
        organ.least[stop] = least;
        for (int key = 0; key < KEYS; key++) {
            organ.offset[pipeIndex(stop, key)] = 0;
        }
        return previous;
    }

    public int stop(int stop, int what) {
        if (!isStop(stop)) {
            return BAD_INDEX;
        }
        switch (what) {
            case 0:
                return organ.manual[stop];
            case 1:
                return organ.demand[stop];
            case 2:
                return organ.least[stop];
            case 3:
                return isIn(organ.drawn, stop) ? 1 : 0;
            case 4:
                return organ.got[stop];
            default:
                return BAD_VALUE;
        }
    }

    public int set(int setting, int value) {
        if (!isWithin(setting, 0, SETTINGS - 1)) {
            return BAD_INDEX;
        }
        if (!isWithin(value, LEAST_SETTING[setting], MOST_SETTING[setting])) {
            return BAD_VALUE;
        }
        remember();
        int previous = organ.setting[setting];
        organ.setting[setting] = value;
        return previous;
    }

    public int cipher(int stop, int key, boolean ciphers) {
        if (!isStop(stop) || !isKey(key)) {
            return BAD_INDEX;
        }
        boolean isNew = ciphers && !isIn(organ.ciphering[stop], key);
        if (isNew && countOfAll(organ.ciphering) >= MOST_CIPHERS) {
            return FULL;
        }
        remember();
        organ.ciphering[stop] = with(organ.ciphering[stop], key, ciphers);
        return countOfAll(organ.ciphering);
    }

    // ---- playing

    public int draw(int stop, boolean on) {
        if (!isStop(stop)) {
            return BAD_INDEX;
        }
        remember();
        organ.drawn = with(organ.drawn, stop, on);
        return Integer.bitCount(organ.drawn);
    }

    public int press(int manual, int key, boolean on) {
        if (!isManual(manual) || !isKey(key)) {
            return BAD_INDEX;
        }
        remember();
        organ.pressed[manual] = with(organ.pressed[manual], key, on);
        return Integer.bitCount(organ.pressed[manual]);
    }

    public int couple(boolean manual, boolean octave) {
        remember();
        int previous = (organ.manualCoupler ? 1 : 0) + (organ.octaveCoupler ? 2 : 0);
        organ.manualCoupler = manual;
        organ.octaveCoupler = octave;
        return previous;
    }

    public int tick(int ticks) {
        if (!isWithin(ticks, 1, MOST_TICKS)) {
            return BAD_VALUE;
        }
        remember();
        letPass(organ, ticks);
        return organ.volume;
    }

    // ---- text

    public int append(int letter) {
        if (!isWithin(letter, 0, 127)) {
            return BAD_VALUE;
        }
        return text.add(letter) ? text.length : FULL;
    }

    public int clearText() {
        int previous = text.length;
        text.length = 0;
        return previous;
    }

    public int faultPosition() {
        return text.findFault();
    }

    public int play() {
        if (text.findFault() != NONE) {
            return NOT_POSSIBLE;
        }
        remember();
        text.begin();
        int acts = 0;
        while (text.hasMore() && acts < TEXT_ROOM) {
            text.readAct();
            carryOutAct();
            acts++;
        }
        return acts;
    }

    private void carryOutAct() {
        switch (text.kind) {
            case 'd':
            case 'r':
                if (isStop(text.place)) {
                    organ.drawn = with(organ.drawn, text.place, text.kind == 'd');
                }
                break;
            case 'p':
            case 'l':
                if (isManual(text.place)) {
                    organ.pressed[text.place] = with(organ.pressed[text.place], text.number, text.kind == 'p');
                }
                break;
            default:
                letPass(organ, text.number);
                break;
        }
    }

    // ---- what there is

    public int tell(int what) {
        if (!isWithin(what, 0, TELLS - 1)) {
            return BAD_INDEX;
        }
        readWind();
        return numberTold(what);
    }

    private int numberTold(int what) {
        switch (what) {
            case 0:
                return organ.volume;
            case 1:
                return organ.reservoirPressure();
            case 2:
                return organ.time;
            case 3:
                return organ.made;
            case 4:
                return sumOf(organ.got);
            case 5:
                return organ.spilled;
            case 6:
                return countOfAll(wind.open);
            case 7:
                return countOfAll(wind.speaking);
            case 8:
                return countOfAll(organ.ciphering);
            default:
                return organ.strokeLeft;
        }
    }

    public int chest(int manual, int what) {
        if (!isManual(manual)) {
            return BAD_INDEX;
        }
        readWind();
        return chestTold(manual, what);
    }

    private int chestTold(int manual, int what) {
        switch (what) {
            case 0:
                return wind.pressure[manual];
            case 1:
                return wind.needs[manual];
            case 2:
                return organ.actingKeys(manual);
            default:
                return BAD_VALUE;
        }
    }

    public int strokes(int feeder) {
        if (!isWithin(feeder, 0, FEEDERS - 1)) {
            return BAD_INDEX;
        }
        return organ.strokesBegun[feeder];
    }

    public int pipe(int stop, int key, int what) {
        if (!isStop(stop) || !isKey(key)) {
            return BAD_INDEX;
        }
        if (!isWithin(what, 0, 4)) {
            return BAD_VALUE;
        }
        readWind();
        return pipeTold(stop, key, what);
    }

    private int pipeTold(int stop, int key, int what) {
        if (what == 0) {
            return organ.need(stop, key);
        }
        if (what == 1) {
            return organ.offset[pipeIndex(stop, key)];
        }
        if (!isIn(wind.open[stop], key)) {
            return NONE;
        }
        if (what == 2) {
            return wind.asks(organ, stop, key);
        }
        return what == 3 ? wind.gets[pipeIndex(stop, key)] : pitch(stop, key);
    }

    public int reason(int stop, int key) {
        if (!isStop(stop) || !isKey(key)) {
            return BAD_INDEX;
        }
        readWind();
        return reasonTold(stop, key);
    }

    private int reasonTold(int stop, int key) {
        if (!isIn(organ.drawn, stop)) {
            return 1;
        }
        if (!isIn(wind.open[stop], key)) {
            return 2;
        }
        if (wind.pressure[organ.manualOf(stop)] < organ.least[stop]) {
            return 3;
        }
        int asked = wind.asks(organ, stop, key);
        if (wind.gets[pipeIndex(stop, key)] < asked) {
            return 4;
        }
        return asked == 0 ? 5 : 0;
    }

    // ---- tuning

    public int tune(int stop, int key) {
        if (!isStop(stop) || !isKey(key)) {
            return BAD_INDEX;
        }
        readWind();
        int tuned = -detuning(stop);
        if (!isIn(wind.speaking[stop], key) || !isWithin(tuned, -MOST_OFFSET, MOST_OFFSET)) {
            return NOT_POSSIBLE;
        }
        remember();
        int previous = organ.offset[pipeIndex(stop, key)];
        organ.offset[pipeIndex(stop, key)] = tuned;
        return previous;
    }

    public int mistuned() {
        readWind();
        return greatestDifference();
    }

    private int greatestDifference() {
        int lowest = ABOVE_ALL;
        int highest = -ABOVE_ALL;
        for (int stop = 0; stop < STOPS; stop++) {
            for (int key = 0; key < KEYS; key++) {
                if (isIn(wind.speaking[stop], key)) {
                    int pitch = pitch(stop, key);
                    lowest = Math.min(lowest, pitch);
                    highest = Math.max(highest, pitch);
                }
            }
        }
        return lowest > highest ? NONE : highest - lowest;
    }

    // ---- questions

    public int search(int what) {
        switch (what) {
            case 0:
                return cipheringStop();
            case 1:
                return testsOfSearch();
            case 2:
                return lowestCipher(cipheringStop());
            default:
                return BAD_INDEX;
        }
    }

    private int cipheringStop() {
        if (!isHeard(ALL_STOPS)) {
            return NONE;
        }
        int first = 0;
        for (int half = STOPS / 2; half > 0; half /= 2) {
            if (!isHeard(rowOfStops(first, half))) {
                first += half;
            }
        }
        return first;
    }

    private int testsOfSearch() {
        int tests = 1;
        if (isHeard(ALL_STOPS)) {
            for (int half = STOPS / 2; half > 0; half /= 2) {
                tests++;
            }
        }
        return tests;
    }

    private int lowestCipher(int stop) {
        for (int key = 0; key < KEYS && isStop(stop); key++) {
            if (isIn(organ.ciphering[stop], key)) {
                return key;
            }
        }
        return NONE;
    }

    private boolean isHeard(int stops) {
        trial.listen(organ, stops, false);
        return countOfAll(trial.speaking) > 0;
    }

    public int robbed(int stop) {
        if (!isStop(stop)) {
            return BAD_INDEX;
        }
        if (isIn(organ.drawn, stop)) {
            return NOT_POSSIBLE;
        }
        readWind();
        trial.listen(organ, with(organ.drawn, stop, true), true);
        int silenced = 0;
        for (int i = 0; i < STOPS; i++) {
            silenced += Integer.bitCount(wind.speaking[i] & ~trial.speaking[i]);
        }
        return silenced;
    }

    public int lowest(int ticks) {
        if (!isWithin(ticks, 1, MOST_FORECAST)) {
            return BAD_VALUE;
        }
        copyState(organ, forecast);
        return letPass(forecast, ticks);
    }

    // ---- states

    public int undo() {
        if (!isWithin(recorded, 1, HISTORY)) {
            return NOT_POSSIBLE;
        }
        recorded--;
        copyState(history[recorded], organ);
        return recorded;
    }

    public int save(int slot) {
        if (!isSlot(slot)) {
            return BAD_INDEX;
        }
        copyState(organ, slots[slot]);
        saved[slot] = true;
        return organ.time;
    }

    public int restore(int slot) {
        if (!isSlot(slot)) {
            return BAD_INDEX;
        }
        if (!saved[slot]) {
            return NOT_POSSIBLE;
        }
        remember();
        copyState(slots[slot], organ);
        return organ.time;
    }

    public long checksum() {
        readWind();
        long h = 151;
        for (int stop = 0; stop < STOPS; stop++) {
            for (int what = 0; what < 5; what++) {
                h = mix(h, stop(stop, what));
            }
        }
        for (int i = 0; i < SETTINGS; i++) {
            h = mix(h, organ.setting[i]);
        }
        for (int what = 0; what < TELLS; what++) {
            h = mix(h, numberTold(what));
        }
        for (int manual = 0; manual < MANUALS; manual++) {
            for (int what = 0; what < 3; what++) {
                h = mix(h, chestTold(manual, what));
            }
        }
        for (int feeder = 0; feeder < FEEDERS; feeder++) {
            h = mix(h, organ.strokesBegun[feeder]);
        }
        h = mixOpenPipes(h);
        h = mix(h, greatestDifference());
        h = mix(h, cipheringStop());
        return mix(h, testsOfSearch());
    }

    private long mixOpenPipes(long start) {
        long h = start;
        for (int stop = 0; stop < STOPS; stop++) {
            for (int key = 0; key < KEYS; key++) {
                if (isIn(wind.open[stop], key)) {
                    h = mix(h, 100 * stop + key);
                    for (int what = 0; what < 5; what++) {
                        h = mix(h, pipeTold(stop, key, what));
                    }
                    h = mix(h, reasonTold(stop, key));
                }
            }
        }
        return h;
    }

    private static long mix(long h, int value) {
        return 31 * h + value;
    }

    // ---- what several methods use

    private void readWind() {
        wind.listen(organ, organ.drawn, true);
    }

    /** Lets ticks pass and answers the lowest volume at the end of one of them. */
    private int letPass(State state, int ticks) {
        // No tick opens or shuts a pipe, and few change the pressure: what follows from them is kept.
        trial.openPipes(state, state.drawn, true);
        int known = NONE;
        int lowest = ABOVE_ALL;
        for (int i = 0; i < ticks; i++) {
            state.pump();
            int pressure = state.reservoirPressure();
            if (pressure != known) {
                trial.setPressures(state);
                trial.addUpAsked(state);
                known = pressure;
            }
            trial.feedPipes(state);
            state.time++;
            lowest = Math.min(lowest, state.volume);
        }
        return lowest;
    }

    private int detuning(int stop) {
        int lack = wind.pressure[organ.manualOf(stop)] - organ.setting[WEIGHT];
        return divide(lack * organ.setting[SLOPE], 16);
    }

    private int pitch(int stop, int key) {
        return organ.offset[pipeIndex(stop, key)] + detuning(stop);
    }

    /** Records the state ahead of a change. */
    private void remember() {
        if (recorded >= HISTORY) {
            State oldest = history[0];
            for (int i = 1; i < HISTORY; i++) {
                history[i - 1] = history[i];
            }
            // Its row is used again for the newest state.
            history[HISTORY - 1] = oldest;
            recorded = HISTORY - 1;
        }
        if (recorded >= 0) {
            copyState(organ, history[recorded]);
            recorded++;
        }
    }

    private static void copyState(State from, State to) {
        if (from != null && to != null) {
            to.takeStops(from);
            to.takeBellows(from);
        }
    }

    private static boolean isStop(int stop) {
        return isWithin(stop, 0, STOPS - 1);
    }

    private static boolean isManual(int manual) {
        return isWithin(manual, 0, MANUALS - 1);
    }

    private static boolean isKey(int key) {
        return isWithin(key, 0, KEYS - 1);
    }

    private static boolean isSlot(int slot) {
        return isWithin(slot, 0, SLOTS - 1);
    }

    private static boolean isWithin(int value, int least, int most) {
        return value >= least && value <= most;
    }

    private static int pipeIndex(int stop, int key) {
        return stop * KEYS + key;
    }

    /** Divides rounding down; what is divided by nothing gives nothing. */
    private static int divide(int dividend, int divisor) {
        return divisor == 0 ? 0 : Math.floorDiv(dividend, divisor);
    }

    private static boolean isIn(int set, int member) {
        return (set >> member & 1) != 0;
    }

    private static int with(int set, int member, boolean isMember) {
        return isMember ? set | 1 << member : set & ~(1 << member);
    }

    private static int rowOfStops(int first, int length) {
        return (1 << length) - 1 << first;
    }

    private static int countOfAll(int[] sets) {
        int count = 0;
        for (int set : sets) {
            count += Integer.bitCount(set);
        }
        return count;
    }

    private static int sumOf(int[] numbers) {
        int sum = 0;
        for (int number : numbers) {
            sum += number;
        }
        return sum;
    }

    /** All that undo and restore bring back. */
    private static final class State {
        private final int[] manual = new int[STOPS];
        private final int[] demand = new int[STOPS];
        private final int[] least = new int[STOPS];
        private final int[] got = new int[STOPS];
        private final int[] ciphering = new int[STOPS];
        private final int[] offset = new int[STOPS * KEYS];
        private final int[] setting = new int[SETTINGS];
        private final int[] pressed = new int[MANUALS];
        private final int[] strokesBegun = new int[FEEDERS];
        private int drawn;
        private boolean manualCoupler;
        private boolean octaveCoupler;
        private int volume = FIRST_VOLUME;
        private int time;
        private int made;
        private int spilled;
        // The first stroke is feeder 0's, as if feeder 1 had made one before.
        private int lastFeeder = 1;
        private int strokeLeft;
        private int strokePart;
        private int strokeTicks;

        State() {
            for (int stop = 0; stop < STOPS; stop++) {
                manual[stop] = stop % MANUALS;
                demand[stop] = 4 + 2 * stop;
                least[stop] = 20 + 5 * stop;
            }
            System.arraycopy(FIRST_SETTING, 0, setting, 0, SETTINGS);
        }

        void takeStops(State other) {
            System.arraycopy(other.manual, 0, manual, 0, STOPS);
            System.arraycopy(other.demand, 0, demand, 0, STOPS);
            System.arraycopy(other.least, 0, least, 0, STOPS);
            System.arraycopy(other.got, 0, got, 0, STOPS);
            System.arraycopy(other.ciphering, 0, ciphering, 0, STOPS);
            System.arraycopy(other.offset, 0, offset, 0, STOPS * KEYS);
            System.arraycopy(other.pressed, 0, pressed, 0, MANUALS);
            drawn = other.drawn;
            manualCoupler = other.manualCoupler;
            octaveCoupler = other.octaveCoupler;
        }

        void takeBellows(State other) {
            System.arraycopy(other.setting, 0, setting, 0, SETTINGS);
            System.arraycopy(other.strokesBegun, 0, strokesBegun, 0, FEEDERS);
            volume = other.volume;
            time = other.time;
            made = other.made;
            spilled = other.spilled;
            lastFeeder = other.lastFeeder;
            strokeLeft = other.strokeLeft;
            strokePart = other.strokePart;
            strokeTicks = other.strokeTicks;
        }

        int manualOf(int stop) {
            return manual[stop] == 0 ? 0 : 1;
        }

        int need(int stop, int key) {
            return demand[stop] + (KEYS - 1 - key) / 4;
        }

        int actingKeys(int onManual) {
            int lower = pressed[0];
            if (octaveCoupler) {
                lower |= pressed[0] << OCTAVE & ALL_KEYS;
            }
            if (onManual == 0) {
                return lower;
            }
            return manualCoupler ? pressed[1] | lower : pressed[1];
        }

        int reservoirPressure() {
            if (volume >= setting[LOW_MARK]) {
                return setting[WEIGHT];
            }
            return divide(setting[WEIGHT] * volume, setting[LOW_MARK]);
        }

        void pump() {
            if (strokeTicks == 0 && volume < setting[TARGET]) {
                beginStroke();
            }
            if (strokeTicks > 0) {
                makePart();
            }
        }

        private void beginStroke() {
            lastFeeder = lastFeeder == 0 ? 1 : 0;
            strokesBegun[lastFeeder]++;
            strokeLeft = setting[STROKE];
            strokeTicks = setting[STROKE_TIME];
            strokePart = divide(strokeLeft, strokeTicks);
        }

        private void makePart() {
            int part = strokeTicks == 1 ? strokeLeft : strokePart;
            strokeTicks--;
            strokeLeft -= part;
            made += part;
            volume += part;
            if (volume > setting[CAPACITY]) {
                spilled += volume - setting[CAPACITY];
                volume = setting[CAPACITY];
            }
        }
    }

    /** How the wind of a state goes if some stops are drawn. */
    private static final class Wind {
        private final int[] open = new int[STOPS];
        private final int[] needs = new int[MANUALS];
        private final int[] pressure = new int[MANUALS];
        private final int[] asked = new int[STOPS];
        private final int[] gets = new int[STOPS * KEYS];
        private final int[] speaking = new int[STOPS];

        void listen(State organ, int drawn, boolean withKeys) {
            openPipes(organ, drawn, withKeys);
            setPressures(organ);
            int left = organ.volume;
            for (int stop = 0; stop < STOPS; stop++) {
                boolean isStrong = pressure[organ.manualOf(stop)] >= organ.least[stop];
                speaking[stop] = 0;
                for (int key = 0; key < KEYS; key++) {
                    if (isIn(open[stop], key)) {
                        int asking = asks(organ, stop, key);
                        int flow = Math.min(asking, left);
                        gets[pipeIndex(stop, key)] = flow;
                        left -= flow;
                        boolean speaks = isStrong && flow == asking && flow != 0;
                        speaking[stop] = with(speaking[stop], key, speaks);
                    }
                }
            }
        }

        void openPipes(State organ, int drawn, boolean withKeys) {
            for (int manual = 0; manual < MANUALS; manual++) {
                needs[manual] = 0;
            }
            for (int stop = 0; stop < STOPS; stop++) {
                int manual = organ.manualOf(stop);
                int sounding = organ.ciphering[stop] | (withKeys ? organ.actingKeys(manual) : 0);
                open[stop] = isIn(drawn, stop) ? sounding : 0;
                for (int key = 0; key < KEYS; key++) {
                    if (isIn(open[stop], key)) {
                        needs[manual] += organ.need(stop, key);
                    }
                }
            }
        }

        void setPressures(State organ) {
            int reservoir = organ.reservoirPressure();
            for (int manual = 0; manual < MANUALS; manual++) {
                int loss = divide(needs[manual] * organ.setting[LOSS + manual], 100);
                pressure[manual] = Math.max(0, reservoir - loss);
            }
        }

        int asks(State organ, int stop, int key) {
            int asking = organ.need(stop, key) * pressure[organ.manualOf(stop)];
            return divide(asking, organ.setting[WEIGHT]);
        }

        void addUpAsked(State organ) {
            for (int stop = 0; stop < STOPS; stop++) {
                asked[stop] = 0;
                for (int key = 0; key < KEYS; key++) {
                    if (isIn(open[stop], key)) {
                        asked[stop] += asks(organ, stop, key);
                    }
                }
            }
        }

        /** Takes what the pipes get out of the reservoir. */
        void feedPipes(State organ) {
            for (int stop = 0; stop < STOPS; stop++) {
                // The pipes of a stop follow one another, so they share all that is left for it.
                int flow = Math.min(asked[stop], organ.volume);
                organ.got[stop] += flow;
                organ.volume -= flow;
            }
        }
    }

    /** The text, and the act in it that was read last. */
    private static final class Text {
        private final int[] letters = new int[TEXT_ROOM];
        private int length;
        private int at;
        private int fault;
        private int kind;
        private int place;
        private int number;

        boolean add(int letter) {
            if (!isWithin(length, 0, TEXT_ROOM - 1)) {
                return false;
            }
            letters[length] = letter;
            length++;
            return true;
        }

        void begin() {
            at = 0;
            fault = NONE;
        }

        boolean hasMore() {
            return at < length;
        }

        int findFault() {
            begin();
            for (int acts = 0; acts < TEXT_ROOM && hasMore() && fault == NONE; acts++) {
                readAct();
            }
            return fault;
        }

        void readAct() {
            kind = letterHere();
            switch (kind) {
                case 'd':
                case 'r':
                    at++;
                    place = readDigit(STOPS - 1);
                    break;
                case 'p':
                case 'l':
                    at++;
                    place = readDigit(MANUALS - 1);
                    number = readNumber(0, KEYS - 1);
                    break;
                case 't':
                    at++;
                    number = readNumber(1, MOST_TICKS);
                    break;
                default:
                    fault = at;
                    break;
            }
        }

        private int readDigit(int most) {
            int digit = letterHere() - '0';
            if (!isWithin(digit, 0, most)) {
                fault = at;
                return 0;
            }
            at++;
            return digit;
        }

        /** Reads a number and its semicolon, unless there was a fault ahead of it. */
        private int readNumber(int least, int most) {
            if (fault != NONE) {
                return 0;
            }
            int start = at;
            int value = readDigit(9);
            if (fault != NONE) {
                return 0;
            }
            for (int digits = 1; digits < 3 && value != 0 && isDigitHere(); digits++) {
                value = 10 * value + readDigit(9);
            }
            if (!isWithin(value, least, most)) {
                fault = start;
            } else if (letterHere() != ';') {
                fault = at;
            } else {
                at++;
            }
            return value;
        }

        private boolean isDigitHere() {
            return isWithin(letterHere(), '0', '9');
        }

        /** The next letter; -1, which is none, behind the last one. */
        private int letterHere() {
            return isWithin(at, 0, TEXT_ROOM - 1) && at < length ? letters[at] : -1;
        }
    }
}
