/**
 * A simulator of control loops with dead time. ../shared/DOC.md says what each call answers; the
 * words there (mismatch, section, fault, change, ..) are used here in the same sense.
 */
public final class DeadTimeLoop {
    public static final int INVALID_ARGUMENT = -2000000001;
    public static final int NOT_POSSIBLE = -2000000002;
    public static final int CAPACITY_EXCEEDED = -2000000003;
    public static final int NOT_FOUND = -2000000004;

    private static final int KP = 0;
    private static final int KI = 1;
    private static final int GAIN = 2;
    private static final int LAG = 3;
    private static final int DEAD = 4;
    private static final int MODEL_GAIN = 5;
    private static final int MODEL_LAG = 6;
    private static final int MODEL_DEAD = 7;
    private static final int FILTER = 8;
    private static final int LEAST_OUTPUT = 9;
    private static final int GREATEST_OUTPUT = 10;
    private static final int RATE = 11;
    private static final int LIMIT = 12;
    private static final int PATIENCE = 13;
    private static final int NOISE = 14;
    private static final int PARAMETERS = 15;

    private static final int[] LEAST = {
        0, 0, -5000, 0, 0, -5000, 0, 0, 0, -100000, 0, 1, 0, 1, 0
    };
    private static final int[] GREATEST = {
        20000, 20000, 5000, 999, 300, 5000, 999, 300, 999, 0, 100000, 200000, 100000, 50, 1000
    };
    private static final int[] INITIAL = {
        1000, 100, 1000, 800, 50, 1000, 800, 50, 0, -50000, 50000, 200000, 5000, 5, 0
    };

    private static final int R = 0;
    private static final int M = 1;
    private static final int U = 2;
    private static final int X = 3;
    private static final int P = 4;
    private static final int F = 5;
    private static final int E = 6;
    private static final int I = 7;
    private static final int Y = 8;
    private static final int MODE = 9;
    private static final int SIGNALS = 10;

    private static final int PREDICTOR = 0;
    private static final int FALLBACK = 1;

    private static final int KEPT_TICKS = 64;
    private static final int CORRELATED_TICKS = 32;
    private static final int GREATEST_LAG = 30;
    private static final int WATCHED_SIGNALS = 4;
    private static final int STORED_STATES = 2;
    private static final int UNDOABLE_CHANGES = 6;
    private static final int TEXT_LENGTH = 80;
    /** The shortest assignment has five characters, such as "kp=1;". */
    private static final int ASSIGNMENTS = TEXT_LENGTH / 5;
    private static final int DIGITS = 7;

    private static final int GREATEST_LEVEL = 100000;
    private static final int GREATEST_SEED = 9999;
    private static final int GREATEST_TIME = 100000;
    private static final int TICKS_OF_A_RUN = 500;
    private static final int TICKS_OF_A_GAIN = 100;
    private static final int TICKS_OF_AN_IDEAL = 200;
    private static final int GAIN_STEP = 250;
    private static final int GREATEST_TRIED_GAIN = 5000;

    /** What a search answers that finds nothing; no position or number is negative. */
    private static final int NONE = -1;

    private final Settings settings = new Settings();
    private final Changes changes = new Changes();
    private final Text text = new Text();
    private final Loop loop = new Loop();
    private final Loop firstStored = new Loop();
    private final Loop secondStored = new Loop();
    private int storedStates = 0;

    /* The questions about what would come run on these, so that a call makes no new object. */
    private final Settings trialSettings = new Settings();
    private final Settings idealSettings = new Settings();
    private final Loop trial = new Loop();
    private final Loop ideal = new Loop();

    public DeadTimeLoop() {
    }

    // ---- parameters

    public int setParameter(int parameter, int value) {
        if (!allows(parameter, value)) {
            return INVALID_ARGUMENT;
        }
        int previous = settings.get(parameter);
        changes.keep(settings);
        settings.set(parameter, value);
        return previous;
    }

    public int parameter(int parameter) {
        return isParameter(parameter) ? settings.get(parameter) : INVALID_ARGUMENT;
    }

    public int nameAt(int parameter, int index) {
        if (!isParameter(parameter) || index < 0) {
            return INVALID_ARGUMENT;
        }
        String name = nameOf(parameter);
        return index < name.length() ? name.charAt(index) : NOT_FOUND;
    }

    public int undo() {
        if (changes.count == 0) {
            return NOT_POSSIBLE;
        }
        changes.takeBack(settings);
        return changes.count;
    }

    public int setSetpoint(int value) {
        return isLevel(value) ? loop.changeSetpoint(value) : INVALID_ARGUMENT;
    }

    public int setLoad(int value) {
        if (!isLevel(value)) {
            return INVALID_ARGUMENT;
        }
        int previous = loop.load;
        loop.load = value;
        return previous;
    }

    public int setSeed(int seed) {
        if (seed < 0 || seed > GREATEST_SEED) {
            return INVALID_ARGUMENT;
        }
        int previous = loop.seed;
        loop.seed = seed;
        return previous;
    }

    // ---- texts

    public int type(int character) {
        if (character < 32 || character > 126) {
            return INVALID_ARGUMENT;
        }
        return text.append((char) character) ? text.length : CAPACITY_EXCEEDED;
    }

    public int clearText() {
        int previous = text.length;
        text.length = 0;
        return previous;
    }

    public int fault() {
        int position = text.read();
        return position == NONE ? NOT_FOUND : position;
    }

    public int apply() {
        if (text.read() != NONE || text.count == 0) {
            return NOT_POSSIBLE;
        }
        changes.keep(settings);
        text.assignTo(settings);
        return text.count;
    }

    public int assigned() {
        return text.read() == NONE ? text.different() : NOT_POSSIBLE;
    }

    public int assignedAt(int index) {
        if (index < 0) {
            return INVALID_ARGUMENT;
        }
        if (text.read() != NONE) {
            return NOT_POSSIBLE;
        }
        int parameter = text.differentAt(index);
        return parameter == NONE ? NOT_FOUND : parameter;
    }

    // ---- ticks

    public int run(int ticks) {
        if (ticks < 1 || ticks > TICKS_OF_A_RUN) {
            return INVALID_ARGUMENT;
        }
        if (ticks > GREATEST_TIME - loop.now) {
            return CAPACITY_EXCEEDED;
        }
        advance(loop, ticks);
        return loop.now;
    }

    public int time() {
        return loop.now;
    }

    public int value(int signal) {
        return isSignal(signal) ? loop.present[signal] : INVALID_ARGUMENT;
    }

    public int recorded(int signal, int ago) {
        if (!isSignal(signal) || ago < 0 || ago >= KEPT_TICKS) {
            return INVALID_ARGUMENT;
        }
        return ago < loop.now ? loop.recordOf(signal, loop.now - 1 - ago) : NOT_FOUND;
    }

    public int restart() {
        int previous = loop.now;
        loop.begin();
        storedStates = 0;
        return previous;
    }

    // ---- records and measures

    public int watch(int signal) {
        if (!isSignal(signal)) {
            return INVALID_ARGUMENT;
        }
        return loop.watches.add(signal) ? loop.watches.count : CAPACITY_EXCEEDED;
    }

    public int unwatch(int signal) {
        if (!isSignal(signal)) {
            return INVALID_ARGUMENT;
        }
        return loop.watches.remove(signal) ? loop.watches.count : NOT_FOUND;
    }

    public int watchedAt(int index) {
        if (index < 0) {
            return INVALID_ARGUMENT;
        }
        return index < loop.watches.count && index < WATCHED_SIGNALS
            ? loop.watches.signals[index] : NOT_FOUND;
    }

    public int extreme(int signal, int what) {
        if (!isSignal(signal) || what < 0 || what > 2) {
            return INVALID_ARGUMENT;
        }
        int place = loop.watches.placeOf(signal);
        if (place == NONE) {
            return NOT_POSSIBLE;
        }
        return loop.watches.hasSeen(place) ? loop.watches.get(place, what) : NOT_FOUND;
    }

    public long measure(int what) {
        switch (what) {
            case 0:
                return loop.section.errorSum;
            case 1:
                return loop.section.effort;
            case 2:
                return loop.section.overshoot;
            case 3:
                return loop.section.ticks;
            default:
                return INVALID_ARGUMENT;
        }
    }

    public int settledTicks(int tolerance) {
        if (tolerance < 0 || tolerance > GREATEST_LEVEL) {
            return INVALID_ARGUMENT;
        }
        int most = Math.min(KEPT_TICKS, loop.section.ticks);
        for (int n = 0; n < most; n++) {
            int tick = loop.now - 1 - n;
            if (Math.abs(loop.recordOf(R, tick) - loop.recordOf(M, tick)) > tolerance) {
                return n;
            }
        }
        return most;
    }

    public int store() {
        if (storedStates >= STORED_STATES) {
            return CAPACITY_EXCEEDED;
        }
        storedAt(storedStates).copy(loop);
        storedStates++;
        return storedStates;
    }

    public int recall() {
        if (storedStates == 0) {
            return NOT_POSSIBLE;
        }
        storedStates--;
        loop.copy(storedAt(storedStates));
        return storedStates;
    }

    // ---- estimation

    public long correlation(int lag) {
        return lag < 0 || lag > GREATEST_LAG ? INVALID_ARGUMENT : correlationFor(lag);
    }

    public int estimatedLag() {
        int lag = strongestLag(NONE);
        return correlationFor(lag) > 0 ? lag : NOT_FOUND;
    }

    public int tuneDelay() {
        int lag = strongestLag(NONE);
        long greatest = correlationFor(lag);
        long second = correlationFor(strongestLag(lag));
        if (greatest <= 0 || greatest < 2 * second) {
            return NOT_POSSIBLE;
        }
        changes.keep(settings);
        settings.set(MODEL_DEAD, 10 * lag);
        return 10 * lag;
    }

    // ---- what would come

    public int ahead(int ticks, int signal) {
        if (ticks < 1 || ticks > TICKS_OF_A_RUN || !isSignal(signal)) {
            return INVALID_ARGUMENT;
        }
        trial.copy(loop);
        advance(trial, ticks);
        return trial.present[signal];
    }

    public int bestGain(int ticks) {
        if (ticks < 1 || ticks > TICKS_OF_A_GAIN) {
            return INVALID_ARGUMENT;
        }
        int best = 0;
        long least = errorsWith(0, ticks);
        for (int gain = GAIN_STEP; gain <= GREATEST_TRIED_GAIN; gain += GAIN_STEP) {
            long errors = errorsWith(gain, ticks);
            if (errors < least) {
                least = errors;
                best = gain;
            }
        }
        return best;
    }

    public int idealDifference(int ticks) {
        if (ticks < 1 || ticks > TICKS_OF_AN_IDEAL) {
            return INVALID_ARGUMENT;
        }
        prepareIdeal();
        for (int t = 0; t < settings.get(DEAD) / 10; t++) {
            trial.tick(trialSettings, false);
        }
        int greatest = difference();
        for (int t = 0; t < ticks; t++) {
            trial.tick(trialSettings, false);
            ideal.tick(idealSettings, true);
            greatest = Math.max(greatest, difference());
        }
        return greatest;
    }

    // ---- what the calls share

    private static boolean isParameter(int parameter) {
        return parameter >= 0 && parameter < PARAMETERS;
    }

    private static boolean isSignal(int signal) {
        return signal >= 0 && signal < SIGNALS;
    }

    private static boolean isLevel(int value) {
        return value >= -GREATEST_LEVEL && value <= GREATEST_LEVEL;
    }

    private static boolean allows(int parameter, int value) {
        return isParameter(parameter)
            && value >= LEAST[parameter] && value <= GREATEST[parameter];
    }

    private static String nameOf(int parameter) {
        switch (parameter) {
            case KP:
                return "kp";
            case KI:
                return "ki";
            case GAIN:
                return "gain";
            case LAG:
                return "lag";
            case DEAD:
                return "dead";
            case MODEL_GAIN:
                return "mgain";
            case MODEL_LAG:
                return "mlag";
            case MODEL_DEAD:
                return "mdead";
            case FILTER:
                return "filter";
            case LEAST_OUTPUT:
                return "umin";
            case GREATEST_OUTPUT:
                return "umax";
            case RATE:
                return "rate";
            case LIMIT:
                return "limit";
            case PATIENCE:
                return "patience";
            default:
                return "noise";
        }
    }

    private static long thousandth(long product) {
        return Math.floorDiv(product, 1000L);
    }

    /** One step of s towards g: "steps towards" of the document. */
    private static int stepped(long s, long g, long weight) {
        return (int) (s + thousandth(weight * (g - s)));
    }

    private static long limited(long value, long least, long greatest) {
        return Math.min(Math.max(value, least), greatest);
    }

    private Loop storedAt(int place) {
        return place == 0 ? firstStored : secondStored;
    }

    private void advance(Loop moved, int ticks) {
        for (int n = 0; n < ticks; n++) {
            moved.tick(settings, false);
        }
    }

    private long correlationFor(int lag) {
        long sum = loop.agreement(lag);
        return settings.get(MODEL_GAIN) < 0 ? -sum : sum;
    }

    /** The lowest lag with the greatest correlation among all lags but the excepted one. */
    private int strongestLag(int excepted) {
        int strongest = NONE;
        long greatest = 0;
        for (int lag = 0; lag <= GREATEST_LAG; lag++) {
            if (lag == excepted) {
                continue;
            }
            long sum = correlationFor(lag);
            if (strongest == NONE || sum > greatest) {
                strongest = lag;
                greatest = sum;
            }
        }
        return strongest;
    }

    private long errorsWith(int gain, int ticks) {
        trialSettings.copy(settings);
        trialSettings.set(KP, gain);
        trial.copy(loop);
        long sum = 0;
        for (int n = 0; n < ticks; n++) {
            trial.tick(trialSettings, false);
            sum += Math.abs(trial.present[R] - trial.present[M]);
        }
        return sum;
    }

    private void prepareIdeal() {
        trialSettings.copy(settings);
        trialSettings.set(NOISE, 0);
        idealSettings.copy(trialSettings);
        idealSettings.set(DEAD, 0);
        trial.begin();
        trial.changeSetpoint(loop.present[R]);
        ideal.begin();
        ideal.changeSetpoint(loop.present[R]);
    }

    private int difference() {
        return Math.abs(trial.present[Y] - ideal.present[Y]);
    }

    /** The values of the 15 parameters. */
    private static final class Settings {
        private final int[] values = new int[PARAMETERS];

        Settings() {
            System.arraycopy(INITIAL, 0, values, 0, PARAMETERS);
        }

        int get(int number) {
            return isParameter(number) ? values[number] : 0;
        }

        void set(int number, int wanted) {
            if (isParameter(number)) {
                values[number] = wanted;
            }
        }

        void copy(Settings other) {
            System.arraycopy(other.values, 0, values, 0, PARAMETERS);
        }
    }

    /** The parameters as they were before each change that can be undone, the oldest first. */
    private static final class Changes {
        private final int[][] rows = new int[UNDOABLE_CHANGES][PARAMETERS];
        int count = 0;

        Changes() {
        }

        void keep(Settings before) {
            if (count >= UNDOABLE_CHANGES) {
                forgetOldest();
            }
            System.arraycopy(before.values, 0, rows[count], 0, PARAMETERS);
            count++;
        }

        void takeBack(Settings target) {
            if (count > 0 && count <= UNDOABLE_CHANGES) {
                count--;
                System.arraycopy(rows[count], 0, target.values, 0, PARAMETERS);
            }
        }

        private void forgetOldest() {
            for (int row = 1; row < UNDOABLE_CHANGES; row++) {
                System.arraycopy(rows[row], 0, rows[row - 1], 0, PARAMETERS);
            }
            count = UNDOABLE_CHANGES - 1;
        }
    }

    /** The text and, behind read(), the assignments in it. */
    private static final class Text {
        private final char[] characters = new char[TEXT_LENGTH];
        private final int[] targets = new int[ASSIGNMENTS];
        private final int[] wanted = new int[ASSIGNMENTS];
        int length = 0;
        int count = 0;

        Text() {
        }

        boolean append(char character) {
            if (length >= TEXT_LENGTH) {
                return false;
            }
            characters[length] = character;
            length++;
            return true;
        }

        /** Reads the assignments; answers where the first wrong one begins, or NONE. */
        int read() {
            int start = 0;
            count = 0;
            while (start < length) {
                int end = readAssignment(start);
                if (end <= start) {
                    return start;
                }
                start = end;
            }
            return NONE;
        }

        void assignTo(Settings settings) {
            for (int n = 0; n < count && n < ASSIGNMENTS; n++) {
                settings.set(targets[n], wanted[n]);
            }
        }

        int different() {
            int found = 0;
            for (int n = 0; n < count; n++) {
                if (isFirst(n)) {
                    found++;
                }
            }
            return found;
        }

        int differentAt(int index) {
            int found = 0;
            for (int n = 0; n < count && n < ASSIGNMENTS; n++) {
                if (isFirst(n)) {
                    if (found == index) {
                        return targets[n];
                    }
                    found++;
                }
            }
            return NONE;
        }

        private boolean isFirst(int assignment) {
            for (int n = 0; n < assignment && assignment < ASSIGNMENTS; n++) {
                if (targets[n] == targets[assignment]) {
                    return false;
                }
            }
            return true;
        }

        /** 0, which is no character of the text, where the text has ended. */
        private int characterAt(int position) {
            return position >= 0 && position < length && position < TEXT_LENGTH
                ? characters[position] : 0;
        }

        private boolean isDigitAt(int position) {
            int character = characterAt(position);
            return character >= '0' && character <= '9';
        }

        /** Answers the position behind the assignment that begins at start, NONE if it is wrong. */
        private int readAssignment(int start) {
            int target = targetAt(start);
            if (target == NONE) {
                return NONE;
            }
            int position = start + nameOf(target).length() + 1;
            boolean negative = characterAt(position) == '-';
            if (negative) {
                position++;
            }
            int digits = 0;
            int number = 0;
            while (digits < DIGITS && isDigitAt(position)) {
                number = 10 * number + characterAt(position) - '0';
                digits++;
                position++;
            }
            if (digits == 0 || characterAt(position) != ';') {
                return NONE;
            }
            return keep(target, negative ? -number : number) ? position + 1 : NONE;
        }

        private boolean keep(int target, int number) {
            if (!allows(target, number) || count >= ASSIGNMENTS) {
                return false;
            }
            targets[count] = target;
            wanted[count] = number;
            count++;
            return true;
        }

        /** The parameter whose name and "=" stand at start; "=" keeps "ki" from being any "ki..". */
        private int targetAt(int start) {
            for (int number = 0; number < PARAMETERS; number++) {
                String name = nameOf(number);
                if (standsAt(name, start) && characterAt(start + name.length()) == '=') {
                    return number;
                }
            }
            return NONE;
        }

        private boolean standsAt(String name, int start) {
            for (int n = 0; n < name.length(); n++) {
                if (characterAt(start + n) != name.charAt(n)) {
                    return false;
                }
            }
            return true;
        }
    }

    /** What has happened since the setpoint was set. */
    private static final class Section {
        long errorSum = 0;
        long effort = 0;
        int overshoot = 0;
        int ticks = 0;
        private boolean upwards = true;

        Section() {
        }

        void begin(boolean goesUpwards) {
            errorSum = 0;
            effort = 0;
            overshoot = 0;
            ticks = 0;
            upwards = goesUpwards;
        }

        void copy(Section other) {
            errorSum = other.errorSum;
            effort = other.effort;
            overshoot = other.overshoot;
            ticks = other.ticks;
            upwards = other.upwards;
        }

        void see(int setpoint, int measured, int outputStep) {
            errorSum += Math.abs(setpoint - measured);
            effort += Math.abs(outputStep);
            overshoot = Math.max(overshoot, upwards ? measured - setpoint : setpoint - measured);
            ticks++;
        }
    }

    /** The watched signals, in the order in which watching began, and their extremes. */
    private static final class Watches {
        final int[] signals = new int[WATCHED_SIGNALS];
        private final int[] least = new int[WATCHED_SIGNALS];
        private final int[] greatest = new int[WATCHED_SIGNALS];
        /** The first tick with the greatest value; NONE as long as there was no tick. */
        private final int[] greatestTick = new int[WATCHED_SIGNALS];
        int count = 0;

        Watches() {
        }

        void copy(Watches other) {
            System.arraycopy(other.signals, 0, signals, 0, WATCHED_SIGNALS);
            System.arraycopy(other.least, 0, least, 0, WATCHED_SIGNALS);
            System.arraycopy(other.greatest, 0, greatest, 0, WATCHED_SIGNALS);
            System.arraycopy(other.greatestTick, 0, greatestTick, 0, WATCHED_SIGNALS);
            count = other.count;
        }

        int placeOf(int signal) {
            for (int place = 0; place < count && place < WATCHED_SIGNALS; place++) {
                if (signals[place] == signal) {
                    return place;
                }
            }
            return NONE;
        }

        boolean add(int signal) {
            int place = placeOf(signal);
            if (place == NONE) {
                if (count >= WATCHED_SIGNALS) {
                    return false;
                }
                place = count;
                count++;
            }
            signals[place] = signal;
            greatestTick[place] = NONE;
            return true;
        }

        boolean remove(int signal) {
            int place = placeOf(signal);
            if (place == NONE) {
                return false;
            }
            for (int next = place + 1; next < count && next < WATCHED_SIGNALS; next++) {
                signals[next - 1] = signals[next];
                least[next - 1] = least[next];
                greatest[next - 1] = greatest[next];
                greatestTick[next - 1] = greatestTick[next];
            }
            count--;
            return true;
        }

        boolean hasSeen(int place) {
            return place >= 0 && place < WATCHED_SIGNALS && greatestTick[place] != NONE;
        }

        int get(int place, int what) {
            if (place < 0 || place >= WATCHED_SIGNALS) {
                return NOT_FOUND;
            }
            if (what == 0) {
                return least[place];
            }
            return what == 1 ? greatest[place] : greatestTick[place];
        }

        void see(int[] present, int tick) {
            for (int place = 0; place < count && place < WATCHED_SIGNALS; place++) {
                int signal = signals[place];
                if (signal >= 0 && signal < present.length) {
                    seeOne(place, present[signal], tick);
                }
            }
        }

        private void seeOne(int place, int seen, int tick) {
            boolean first = !hasSeen(place);
            if (first || seen < least[place]) {
                least[place] = seen;
            }
            if (first || seen > greatest[place]) {
                greatest[place] = seen;
                greatestTick[place] = tick;
            }
        }
    }

    /** The state of a loop: all that is stored and recalled. */
    private static final class Loop {
        int now = 0;
        int load = 0;
        int seed = 0;
        private int badTicks = 0;
        private int goodTicks = 0;
        final int[] present = new int[SIGNALS];
        private final int[] records = new int[SIGNALS * KEPT_TICKS];
        final Section section = new Section();
        final Watches watches = new Watches();

        Loop() {
        }

        /* The records need no clearing: recordOf() shows none but those of ticks before now. */
        void begin() {
            now = 0;
            load = 0;
            seed = 0;
            badTicks = 0;
            goodTicks = 0;
            for (int signal = 0; signal < SIGNALS; signal++) {
                present[signal] = 0;
            }
            section.begin(true);
            watches.count = 0;
        }

        void copy(Loop other) {
            now = other.now;
            load = other.load;
            seed = other.seed;
            badTicks = other.badTicks;
            goodTicks = other.goodTicks;
            System.arraycopy(other.present, 0, present, 0, SIGNALS);
            System.arraycopy(other.records, 0, records, 0, SIGNALS * KEPT_TICKS);
            section.copy(other.section);
            watches.copy(other.watches);
        }

        int changeSetpoint(int setpoint) {
            int previous = present[R];
            present[R] = setpoint;
            section.begin(setpoint >= previous);
            return previous;
        }

        /** The record of a tick; 0 for ticks before tick 0, and for those that are not kept. */
        int recordOf(int signal, int tick) {
            if (!isSignal(signal) || tick < 0 || tick >= now || tick < now - KEPT_TICKS) {
                return 0;
            }
            return records[signal * KEPT_TICKS + Math.floorMod(tick, KEPT_TICKS)];
        }

        /** The sum for a lag before it takes the sign of the model's gain. */
        long agreement(int lag) {
            long sum = 0;
            for (int tick = Math.max(0, now - CORRELATED_TICKS); tick < now; tick++) {
                int cause = tick - 1 - lag;
                long outputStep = recordOf(U, cause) - recordOf(U, cause - 1);
                long effect = recordOf(M, tick) - recordOf(M, tick - 1);
                sum += outputStep * effect;
            }
            return sum;
        }

        /** In an ideal loop the feedback is always m and the gains are never lessened. */
        void tick(Settings settings, boolean isIdeal) {
            int previousOutput = present[U];
            present[M] = present[Y] + noise(settings.get(NOISE));
            present[P] = delayed(X, present[X], settings.get(MODEL_DEAD));
            int mismatch = present[M] - present[P];
            present[F] = stepped(present[F], mismatch, 1000 - settings.get(FILTER));
            judge(Math.abs(mismatch) > settings.get(LIMIT), settings.get(PATIENCE));
            control(settings, isIdeal);
            keepRecords();
            section.see(present[R], present[M], present[U] - previousOutput);
            watches.see(present, now);
            moveOn(settings);
        }

        private int noise(int amplitude) {
            long root = 7919L * now + 6151L * seed + 1;
            long span = 2L * amplitude + 1;
            return span < 1 ? 0 : (int) (root * root % 65521 % span - amplitude);
        }

        /** The tick that is being made has no record yet, so its value is handed in. */
        private int delayed(int signal, int value, int tenths) {
            int ticks = tenths / 10;
            int part = tenths % 10;
            long newer = ticks == 0 ? value : recordOf(signal, now - ticks);
            long older = recordOf(signal, now - ticks - 1);
            return (int) Math.floorDiv(newer * (10 - part) + older * part, 10L);
        }

        private void judge(boolean isBad, int patience) {
            badTicks = isBad ? badTicks + 1 : 0;
            goodTicks = isBad ? 0 : goodTicks + 1;
            boolean rejected = present[MODE] == PREDICTOR && badTicks >= patience;
            boolean trusted = present[MODE] == FALLBACK && goodTicks >= 2 * patience;
            if (rejected || trusted) {
                present[MODE] = rejected ? FALLBACK : PREDICTOR;
                badTicks = 0;
                goodTicks = 0;
            }
        }

        private void control(Settings settings, boolean isIdeal) {
            boolean lessened = present[MODE] == FALLBACK && !isIdeal;
            int feedback = lessened || isIdeal ? present[M] : present[X] + present[F];
            long proportional = lessened ? settings.get(KP) / 2 : settings.get(KP);
            long integral = lessened ? settings.get(KI) / 4 : settings.get(KI);
            present[E] = present[R] - feedback;
            long part = thousandth(proportional * present[E]);
            long sum = present[I] + thousandth(integral * present[E]);
            long wanted = part + sum;
            long output = outputFor(wanted, settings);
            present[U] = (int) output;
            boolean heldBack = output < wanted && present[E] > 0
                || output > wanted && present[E] < 0;
            if (!heldBack) {
                present[I] = (int) sum;
            }
        }

        /** The rate has the last word, as in the document: it may keep u outside of its range. */
        private long outputFor(long wanted, Settings settings) {
            long inRange = limited(wanted, settings.get(LEAST_OUTPUT), settings.get(GREATEST_OUTPUT));
            long rate = settings.get(RATE);
            return limited(inRange, present[U] - rate, present[U] + rate);
        }

        private void keepRecords() {
            for (int signal = 0; signal < SIGNALS; signal++) {
                records[signal * KEPT_TICKS + Math.floorMod(now, KEPT_TICKS)] = present[signal];
            }
        }

        private void moveOn(Settings settings) {
            long input = delayed(U, present[U], settings.get(DEAD)) + load;
            long processGoal = thousandth(settings.get(GAIN) * input);
            long modelGoal = thousandth((long) settings.get(MODEL_GAIN) * present[U]);
            present[Y] = stepped(present[Y], processGoal, 1000 - settings.get(LAG));
            present[X] = stepped(present[X], modelGoal, 1000 - settings.get(MODEL_LAG));
            now++;
        }
    }
}
