/**
 * A string of ears buried in a line, whose clocks are wrong and drift. Known thumps tune the clocks; by them it is
 * told from which place, and at which time, a knock came.
 */
public final class ThumpEars {
    public static final int UNKNOWN = -1;
    public static final int BAD_VALUE = -2;
    public static final int FULL = -3;
    public static final int NOT_POSSIBLE = -4;
    public static final int NONE = -5;

    private static final int MAX_PLACE = 1000;
    private static final int MAX_TIME = 100000;
    private static final int MAX_CLOCK_TIME = 200000;
    private static final int MAX_REACH = 1000;
    private static final int MAX_OFFSET = 500;
    private static final int MAX_DRIFT = 50;
    private static final int MAX_PACE = 20;
    private static final int MAX_TOLERANCE = 500;
    private static final int MIN_READING = -10000;
    private static final int MAX_READING = 300000;
    private static final int MAX_EARS = 10;
    private static final int MAX_SOUNDS = 10;
    private static final int MAX_STATES = 4;
    private static final int MAX_SIGNS = 60;
    private static final int MAX_DIGITS = 6;

    /** So many ears must have heard a knock, or its place can't be told. */
    private static final int MIN_HEARERS = 2;
    /** So many ticks in which a clock with the drift 1 gains one. */
    private static final int DRIFT_UNIT = 10000;
    /** Readings and errors of marks are told with this on top, so that none looks like an error of the call. */
    private static final int TOLD_ABOVE = 10000;
    /** Offset and drift are told with this on top, for the same reason. */
    private static final int SET_ABOVE = 1000;
    private static final long THOUSAND = 1000L;
    /** Stands where an ear heard nothing: no clock reads as little as this. */
    private static final int SILENCE = -1000000;
    /** Stands for no error: those are below 0. */
    private static final int FINE = 0;
    private static final int NO_FAULT = -1;
    private static final int FAULTS_BELOW = -100;
    /** The least long, from which a method with long answers tells its errors. */
    private static final long LONG_ERRORS = -9223372036854775808L;

    private final State now = new State();
    private final State snapshot = new State();
    private boolean hasSnapshot = false;
    private final History history = new History();
    private final OrderText text = new OrderText();
    // The rows of these two are filled anew by each call that needs them, so that no call makes rows of its own.
    private final Marks marks = new Marks();
    private final Source source = new Source();

    public ThumpEars() {
    }

    // ---- the string

    public int bury(int place) {
        if (!isWithin(place, 0, MAX_PLACE)) {
            return BAD_VALUE;
        }
        if (now.ears >= MAX_EARS) {
            return FULL;
        }
        history.push(now);
        return now.addEar(place);
    }

    public int setClock(int ear, int offset, int drift) {
        if (!now.hasEar(ear)) {
            return UNKNOWN;
        }
        if (!isWithin(offset, -MAX_OFFSET, MAX_OFFSET) || !isWithin(drift, -MAX_DRIFT, MAX_DRIFT)) {
            return BAD_VALUE;
        }
        if (now.offsets[ear] == offset && now.drifts[ear] == drift) {
            return NONE;
        }
        history.push(now);
        now.offsets[ear] = offset;
        now.drifts[ear] = drift;
        return 1;
    }

    public int mute(int ear, boolean is) {
        if (!now.hasEar(ear)) {
            return UNKNOWN;
        }
        return flag(now.mutes, now.ears, ear, is);
    }

    public int set(int what, int value) {
        if (what == 0) {
            return setPace(value);
        }
        return what == 1 ? setTolerance(value) : BAD_VALUE;
    }

    // ---- thumps and knocks

    public int thump(int place, int time, int reach) {
        return makeSound(now.thumps, place, time, reach);
    }

    public int knock(int place, int time, int reach) {
        return makeSound(now.knocks, place, time, reach);
    }

    public int leaveOut(int thump, boolean is) {
        if (!now.thumps.has(thump)) {
            return UNKNOWN;
        }
        return flag(now.leftOut, now.thumps.size, thump, is);
    }

    public int readOrders() {
        int fault = text.read();
        if (fault != NO_FAULT) {
            return FAULTS_BELOW - fault;
        }
        int refusal = refusalOfOrders();
        if (refusal != FINE) {
            return refusal;
        }
        history.push(now);
        for (int order = 0; order < text.orders; order++) {
            Sounds sounds = text.areThumps[order] ? now.thumps : now.knocks;
            now.addSound(sounds, text.places[order], text.times[order], text.reaches[order]);
        }
        return text.orders;
    }

    // ---- texts

    public int type(char character) {
        if (text.length >= MAX_SIGNS) {
            return FULL;
        }
        text.signs[text.length] = character;
        text.length++;
        return text.length;
    }

    public int clearText() {
        int length = text.length;
        text.length = 0;
        return length;
    }

    // ---- history

    public int undo() {
        if (history.size <= 0) {
            return NONE;
        }
        history.popInto(now);
        return history.size;
    }

    public int keep() {
        snapshot.copyFrom(now);
        hasSnapshot = true;
        return now.soundsTogether();
    }

    public int restore() {
        if (!hasSnapshot) {
            return NONE;
        }
        history.push(now);
        now.copyFrom(snapshot);
        return now.soundsTogether();
    }

    // ---- ears

    public int ear(int ear, int what) {
        if (!now.hasEar(ear)) {
            return UNKNOWN;
        }
        switch (what) {
            case 0:
                return now.places[ear];
            case 1:
                return now.mutes[ear] ? 1 : 0;
            case 2:
                return now.offsets[ear] + SET_ABOVE;
            case 3:
                return now.drifts[ear] + SET_ABOVE;
            case 4:
                marks.gather(now, ear);
                return marks.size;
            case 5:
                return latestReading(ear);
            case 6:
                return now.knocks.heardBy(ear);
            default:
                return BAD_VALUE;
        }
    }

    public int clock(int ear, int time) {
        if (!now.hasEar(ear)) {
            return UNKNOWN;
        }
        if (!isWithin(time, 0, MAX_CLOCK_TIME)) {
            return BAD_VALUE;
        }
        return now.reading(ear, time) + TOLD_ABOVE;
    }

    public int mark(int ear, int mark, int what) {
        if (!now.hasEar(ear)) {
            return UNKNOWN;
        }
        if (mark < 0 || !isWithin(what, 0, 2)) {
            return BAD_VALUE;
        }
        marks.gather(now, ear);
        if (mark >= marks.size) {
            return NONE;
        }
        if (what == 0) {
            return marks.readings[mark] + TOLD_ABOVE;
        }
        return what == 1 ? marks.errors[mark] + TOLD_ABOVE : marks.thumps[mark];
    }

    public long error(int ear, int reading) {
        if (!now.hasEar(ear)) {
            return longError(UNKNOWN);
        }
        if (!isWithin(reading, MIN_READING, MAX_READING)) {
            return longError(BAD_VALUE);
        }
        marks.gather(now, ear);
        return marks.errorAt(reading);
    }

    public int stalest() {
        int stalest = NONE;
        int earliest = MAX_SOUNDS;
        for (int ear = 0; ear < now.ears; ear++) {
            marks.gather(now, ear);
            int latest = marks.latestThump();
            if (latest < earliest) {
                earliest = latest;
                stalest = ear;
            }
        }
        return stalest;
    }

    // ---- what was heard

    public int heard(boolean knocks, int number, int ear) {
        Sounds sounds = knocks ? now.knocks : now.thumps;
        if (!sounds.has(number) || !now.hasEar(ear)) {
            return UNKNOWN;
        }
        int reading = sounds.readings[number][ear];
        return reading == SILENCE ? NONE : reading + TOLD_ABOVE;
    }

    public long putRight(int knock, int ear) {
        if (!now.knocks.has(knock) || !now.hasEar(ear)) {
            return longError(UNKNOWN);
        }
        int reading = now.knocks.readings[knock][ear];
        if (reading == SILENCE) {
            return longError(NONE);
        }
        marks.gather(now, ear);
        return marks.rightTime(reading);
    }

    public long found(int knock, int what) {
        if (!now.knocks.has(knock)) {
            return longError(UNKNOWN);
        }
        if (!isWithin(what, 0, 5)) {
            return longError(BAD_VALUE);
        }
        source.listen(now, knock, marks);
        if (what == 3) {
            return source.size;
        }
        if (source.size < MIN_HEARERS) {
            return longError(NOT_POSSIBLE);
        }
        source.locate();
        switch (what) {
            case 0:
                return source.place;
            case 1:
                return source.time();
            case 2:
                return source.width();
            case 4:
                return source.fits(now.tolerance) ? 1 : 0;
            default:
                return source.worstEar();
        }
    }

    public long spread(int knock, int place) {
        if (!now.knocks.has(knock)) {
            return longError(UNKNOWN);
        }
        if (!isWithin(place, 0, MAX_PLACE)) {
            return longError(BAD_VALUE);
        }
        source.listen(now, knock, marks);
        if (source.size < MIN_HEARERS) {
            return longError(NOT_POSSIBLE);
        }
        source.lookFrom(place);
        return source.width();
    }

    public int truth(int knock, int what) {
        if (!now.knocks.has(knock)) {
            return UNKNOWN;
        }
        switch (what) {
            case 0:
                return now.knocks.places[knock];
            case 1:
                return now.knocks.times[knock];
            case 2:
                return missOf(knock);
            default:
                return BAD_VALUE;
        }
    }

    public int count(int what) {
        switch (what) {
            case 0:
                return now.ears;
            case 1:
                return now.thumps.size;
            case 2:
                return now.knocks.size;
            case 3:
                return now.pace;
            case 4:
                return now.tolerance;
            case 5:
                return now.latest;
            case 6:
                return countFlags(now.mutes, now.ears);
            case 7:
                return countFlags(now.leftOut, now.thumps.size);
            case 8:
                return countFitting();
            case 9:
                return history.size;
            case 10:
                return text.length;
            default:
                return BAD_VALUE;
        }
    }

    // ---- the parts of the calls

    private static boolean isWithin(int value, int least, int greatest) {
        return value >= least && value <= greatest;
    }

    private static long longError(int error) {
        return LONG_ERRORS - error;
    }

    private static int countFlags(boolean[] flags, int size) {
        int set = 0;
        for (int i = 0; i < size; i++) {
            if (flags[i]) {
                set++;
            }
        }
        return set;
    }

    /** Sets one of the flags of the state as an act; returns how many of the first ones are set then. */
    private int flag(boolean[] flags, int size, int index, boolean is) {
        if (flags[index] == is) {
            return NONE;
        }
        history.push(now);
        flags[index] = is;
        return countFlags(flags, size);
    }

    private int setPace(int value) {
        if (!isWithin(value, 1, MAX_PACE)) {
            return BAD_VALUE;
        }
        int previous = now.pace;
        if (value == previous) {
            return NONE;
        }
        history.push(now);
        now.pace = value;
        return previous;
    }

    private int setTolerance(int value) {
        if (!isWithin(value, 0, MAX_TOLERANCE)) {
            return BAD_VALUE;
        }
        int previous = now.tolerance;
        if (value == previous) {
            return NONE;
        }
        history.push(now);
        now.tolerance = value;
        return previous;
    }

    private int makeSound(Sounds sounds, int place, int time, int reach) {
        int refusal = refusal(place, time, reach, now.latest, sounds.size);
        if (refusal != FINE) {
            return refusal;
        }
        history.push(now);
        return now.addSound(sounds, place, time, reach);
    }

    /** The error of a thump or knock that would come behind the latest time, as the number of its kind. */
    private static int refusal(int place, int time, int reach, int latest, int number) {
        if (!isWithin(place, 0, MAX_PLACE) || !isWithin(time, 0, MAX_TIME) || !isWithin(reach, 1, MAX_REACH)) {
            return BAD_VALUE;
        }
        if (time < latest) {
            return NOT_POSSIBLE;
        }
        return number >= MAX_SOUNDS ? FULL : FINE;
    }

    /** Looks at the orders before any is done, so that nothing has to be taken back if a later one is refused. */
    private int refusalOfOrders() {
        int thumps = now.thumps.size;
        int knocks = now.knocks.size;
        int latest = now.latest;
        for (int order = 0; order < text.orders; order++) {
            int number = text.areThumps[order] ? thumps : knocks;
            int refusal = refusal(text.places[order], text.times[order], text.reaches[order], latest, number);
            if (refusal != FINE) {
                return refusal;
            }
            if (text.areThumps[order]) {
                thumps++;
            } else {
                knocks++;
            }
            latest = text.times[order];
        }
        return FINE;
    }

    private int latestReading(int ear) {
        marks.gather(now, ear);
        return marks.size == 0 ? NONE : marks.readings[marks.size - 1] + TOLD_ABOVE;
    }

    private int missOf(int knock) {
        source.listen(now, knock, marks);
        if (source.size < MIN_HEARERS) {
            return NOT_POSSIBLE;
        }
        source.locate();
        return Math.abs(source.place - now.knocks.places[knock]);
    }

    private int countFitting() {
        int fitting = 0;
        for (int knock = 0; knock < now.knocks.size; knock++) {
            source.listen(now, knock, marks);
            if (source.size >= MIN_HEARERS) {
                source.locate();
                if (source.fits(now.tolerance)) {
                    fitting++;
                }
            }
        }
        return fitting;
    }

    /** All that undo and restore bring back. */
    private static final class State {
        final int[] places = new int[MAX_EARS];
        final int[] offsets = new int[MAX_EARS];
        final int[] drifts = new int[MAX_EARS];
        final boolean[] mutes = new boolean[MAX_EARS];
        final boolean[] leftOut = new boolean[MAX_SOUNDS];
        final Sounds thumps = new Sounds();
        final Sounds knocks = new Sounds();
        int ears = 0;
        int pace = 3;
        int tolerance = 5;
        int latest = 0;

        void copyFrom(State other) {
            System.arraycopy(other.places, 0, places, 0, MAX_EARS);
            System.arraycopy(other.offsets, 0, offsets, 0, MAX_EARS);
            System.arraycopy(other.drifts, 0, drifts, 0, MAX_EARS);
            System.arraycopy(other.mutes, 0, mutes, 0, MAX_EARS);
            System.arraycopy(other.leftOut, 0, leftOut, 0, MAX_SOUNDS);
            thumps.copyFrom(other.thumps);
            knocks.copyFrom(other.knocks);
            ears = other.ears;
            pace = other.pace;
            tolerance = other.tolerance;
            latest = other.latest;
        }

        boolean hasEar(int ear) {
            return ear >= 0 && ear < ears;
        }

        /** Only with room for one more ear. */
        int addEar(int place) {
            places[ears] = place;
            ears++;
            return ears - 1;
        }

        int reading(int ear, int time) {
            return time + offsets[ear] + Math.floorDiv(drifts[ear] * time, DRIFT_UNIT);
        }

        int wayTo(int ear, int place) {
            return Math.abs(place - places[ear]);
        }

        boolean canHear(int ear, int place, int reach) {
            return hasEar(ear) && !mutes[ear] && wayTo(ear, place) <= reach;
        }

        /** Only with room for one more, of this state's thumps or knocks; returns how many ears hear it. */
        int addSound(Sounds sounds, int place, int time, int reach) {
            int number = sounds.size;
            int hearers = 0;
            // Ears that are buried later did not hear it either: so all rows, not those of today's ears alone.
            for (int ear = 0; ear < MAX_EARS; ear++) {
                int reading = SILENCE;
                if (canHear(ear, place, reach)) {
                    reading = reading(ear, time + pace * wayTo(ear, place));
                    hearers++;
                }
                sounds.readings[number][ear] = reading;
            }
            sounds.places[number] = place;
            sounds.times[number] = time;
            sounds.paces[number] = pace;
            sounds.size++;
            latest = time;
            return hearers;
        }

        int soundsTogether() {
            return thumps.size + knocks.size;
        }
    }

    /** Thumps, or knocks, in the order in which they came, with what the ears wrote down. */
    private static final class Sounds {
        final int[] places = new int[MAX_SOUNDS];
        final int[] times = new int[MAX_SOUNDS];
        final int[] paces = new int[MAX_SOUNDS];
        final int[][] readings = new int[MAX_SOUNDS][MAX_EARS];
        int size = 0;

        void copyFrom(Sounds other) {
            System.arraycopy(other.places, 0, places, 0, MAX_SOUNDS);
            System.arraycopy(other.times, 0, times, 0, MAX_SOUNDS);
            System.arraycopy(other.paces, 0, paces, 0, MAX_SOUNDS);
            for (int number = 0; number < MAX_SOUNDS; number++) {
                System.arraycopy(other.readings[number], 0, readings[number], 0, MAX_EARS);
            }
            size = other.size;
        }

        boolean has(int number) {
            return number >= 0 && number < size;
        }

        int heardBy(int ear) {
            int heard = 0;
            for (int number = 0; number < size; number++) {
                if (readings[number][ear] != SILENCE) {
                    heard++;
                }
            }
            return heard;
        }
    }

    /** The latest states, the oldest of them first. */
    private static final class History {
        final State[] states = new State[MAX_STATES];
        int size = 0;

        History() {
            for (int i = 0; i < MAX_STATES; i++) {
                states[i] = new State();
            }
        }

        void push(State state) {
            if (size >= MAX_STATES) {
                dropOldest();
            }
            states[size].copyFrom(state);
            size++;
        }

        /** The dropped state goes to the end, where the next one is written over it. */
        void dropOldest() {
            State oldest = states[0];
            for (int i = 1; i < MAX_STATES; i++) {
                states[i - 1] = states[i];
            }
            states[MAX_STATES - 1] = oldest;
            size = MAX_STATES - 1;
        }

        /** Only with a state in it. */
        void popInto(State state) {
            size--;
            state.copyFrom(states[size]);
        }
    }

    /** The marks of one ear that count. */
    private static final class Marks {
        final int[] thumps = new int[MAX_SOUNDS];
        final int[] readings = new int[MAX_SOUNDS];
        final int[] errors = new int[MAX_SOUNDS];
        int size = 0;

        void gather(State state, int ear) {
            Sounds sounds = state.thumps;
            size = 0;
            for (int thump = 0; thump < sounds.size; thump++) {
                int reading = sounds.readings[thump][ear];
                if (reading != SILENCE && !state.leftOut[thump] && isBehindAll(reading)) {
                    int way = state.wayTo(ear, sounds.places[thump]);
                    thumps[size] = thump;
                    readings[size] = reading;
                    errors[size] = reading - (sounds.times[thump] + sounds.paces[thump] * way);
                    size++;
                }
            }
        }

        /** The last mark that counts has the greatest reading of all ahead, even of those that do not count. */
        boolean isBehindAll(int reading) {
            return size == 0 || reading > readings[size - 1];
        }

        /** -1, which is ahead of all thumps, without marks. */
        int latestThump() {
            return size == 0 ? -1 : thumps[size - 1];
        }

        long errorAt(int reading) {
            if (size == 0) {
                return 0;
            }
            int first = firstOfPair(reading);
            int second = Math.min(first + 1, size - 1);
            long base = THOUSAND * errors[first];
            long width = readings[second] - readings[first];
            if (width == 0) {
                // A single mark is both of the pair.
                return base;
            }
            long rise = THOUSAND * (errors[second] - errors[first]);
            return base + Math.floorDiv(rise * (reading - readings[first]), width);
        }

        /** The last mark is no first one of a pair, unless it is the only one. */
        int firstOfPair(int reading) {
            int first = 0;
            for (int i = 1; i < size - 1; i++) {
                if (readings[i] <= reading) {
                    first = i;
                }
            }
            return first;
        }

        long rightTime(int reading) {
            return THOUSAND * reading - errorAt(reading);
        }
    }

    /** From where one knock came, as the ears that heard it tell. */
    private static final class Source {
        final int[] ears = new int[MAX_EARS];
        final int[] earPlaces = new int[MAX_EARS];
        final long[] rightTimes = new long[MAX_EARS];
        int size = 0;
        long perPlace = 0;
        int place = 0;
        long least = 0;
        long greatest = 0;

        void listen(State state, int knock, Marks marks) {
            size = 0;
            perPlace = THOUSAND * state.knocks.paces[knock];
            for (int ear = 0; ear < state.ears; ear++) {
                int reading = state.knocks.readings[knock][ear];
                if (reading != SILENCE) {
                    marks.gather(state, ear);
                    ears[size] = ear;
                    earPlaces[size] = state.places[ear];
                    rightTimes[size] = marks.rightTime(reading);
                    size++;
                }
            }
        }

        long beginning(int index) {
            return rightTimes[index] - perPlace * Math.abs(place - earPlaces[index]);
        }

        /** Takes a place as the one from which the knock came. */
        void lookFrom(int from) {
            place = from;
            least = beginning(0);
            greatest = least;
            for (int i = 1; i < size; i++) {
                long beginning = beginning(i);
                least = Math.min(least, beginning);
                greatest = Math.max(greatest, beginning);
            }
        }

        void locate() {
            lookFrom(0);
            int best = 0;
            long narrowest = width();
            for (int from = 1; from <= MAX_PLACE; from++) {
                lookFrom(from);
                if (width() < narrowest) {
                    narrowest = width();
                    best = from;
                }
            }
            lookFrom(best);
        }

        long width() {
            return greatest - least;
        }

        boolean fits(int tolerance) {
            return width() <= THOUSAND * tolerance;
        }

        long time() {
            return Math.floorDiv(greatest + least, 2L);
        }

        int worstEar() {
            int worst = 0;
            long farthest = Math.abs(beginning(0) - time());
            for (int i = 1; i < size; i++) {
                long distance = Math.abs(beginning(i) - time());
                if (distance > farthest) {
                    farthest = distance;
                    worst = i;
                }
            }
            return ears[worst];
        }
    }

    /** The text, and the orders that were read from it the last time. */
    private static final class OrderText {
        final char[] signs = new char[MAX_SIGNS];
        int length = 0;
        final boolean[] areThumps = new boolean[MAX_SIGNS];
        final int[] places = new int[MAX_SIGNS];
        final int[] times = new int[MAX_SIGNS];
        final int[] reaches = new int[MAX_SIGNS];
        int orders = 0;
        int position = 0;
        int number = 0;

        /** Returns the fault: where reading stops, it stands at it, or at the end of a text that ends too early. */
        int read() {
            boolean more = true;
            position = 0;
            orders = 0;
            while (more && orders < MAX_SIGNS) {
                if (!readOrder()) {
                    return position;
                }
                orders++;
                more = skips(';');
            }
            return position < length ? position : NO_FAULT;
        }

        boolean readOrder() {
            areThumps[orders] = skips('t');
            if (!areThumps[orders] && !skips('k')) {
                return false;
            }
            if (!readNumber()) {
                return false;
            }
            places[orders] = number;
            if (!skips('@') || !readNumber()) {
                return false;
            }
            times[orders] = number;
            number = MAX_REACH;
            if (skips('*') && !readNumber()) {
                return false;
            }
            reaches[orders] = number;
            return true;
        }

        boolean skips(char sign) {
            if (position >= length || signs[position] != sign) {
                return false;
            }
            position++;
            return true;
        }

        /** Stops behind what can be a number: a digit too many, or behind a zero, is then not allowed at its place. */
        boolean readNumber() {
            int digits = 0;
            number = 0;
            while (digits < MAX_DIGITS && isDigit() && (digits == 0 || number > 0)) {
                number = 10 * number + (signs[position] - '0');
                position++;
                digits++;
            }
            return digits > 0;
        }

        boolean isDigit() {
            return position < length && signs[position] >= '0' && signs[position] <= '9';
        }
    }
}
