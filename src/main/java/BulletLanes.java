/** Bullet curtains whose lanes stay one sprite wide; ../shared/DOC.md says what every call promises. */
public final class BulletLanes {
    public static final int INVALID_ARGUMENT = -1;
    public static final int NOT_POSSIBLE = -2;
    public static final int LIMIT_REACHED = -3;
    public static final int NOT_FOUND = -4;
    public static final int TURN = 0, BLAST = 1;

    private static final int COLUMNS = 10;
    private static final int LAST_ROW = 11;
    private static final int FIRST_SPRITE_COLUMN = 5;
    private static final int MAX_EMITTERS = 4;
    private static final int MAX_BULLETS = 60;
    private static final int MAX_PERIOD = 9;
    private static final int MAX_BLAST = 5;
    private static final int FIRST_BLAST = 2;
    private static final int FULL_SHIELDS = 3;
    private static final int FULL_BOMBS = 2;
    private static final int SETTINGS = 2;
    private static final int PAD_SIZE = 60;
    private static final int HISTORY_SIZE = 4;
    private static final int MAX_TICKS = 30;

    private static final int FALLS = 0, GOES_LEFT = 1, GOES_RIGHT = 2, WEAVES = 3, AIMS = 4, FANS_OUT = 5;

    // The accounts, in the order in which count() tells them from FIRST_ACCOUNT on.
    private static final int FIRED = 0, STIFLED = 1, LEFT = 2, HITTING = 3, BOMBED = 4, CLEARED = 5;
    private static final int GRAZES = 6, HITS = 7, ACCOUNTS = 8;
    private static final int FIRST_ACCOUNT = 7;

    private static final int CURTAIN = 0;
    private static final int STEPS = 1;

    private final Field field;
    private final Field trial;
    private final Field snapshot;
    private boolean hasSnapshot;
    private final History history;
    private final Pad pad;
    private final CurtainReader reader;
    private final Lanes lanes;

    public BulletLanes() {
        field = new Field();
        trial = new Field();
        snapshot = new Field();
        hasSnapshot = false;
        history = new History();
        pad = new Pad();
        reader = new CurtainReader();
        lanes = new Lanes();
    }

    // ---- emitters, ticks

    public int emitter(int column, int pattern, int period, int phase) {
        if (!isColumn(column) || !isPattern(pattern) || !isPeriod(period)) {
            return INVALID_ARGUMENT;
        }
        if (phase < 0 || phase >= period) {
            return INVALID_ARGUMENT;
        }
        if (field.emitters.isFull()) {
            return LIMIT_REACHED;
        }
        history.record(field);
        field.emitters.add(column, pattern, period, phase);
        return field.emitters.size - 1;
    }

    public int takeAway(int emitter) {
        if (!field.emitters.has(emitter)) {
            return INVALID_ARGUMENT;
        }
        history.record(field);
        field.emitters.remove(emitter);
        return field.emitters.size;
    }

    public int tick(int step) {
        if (!isStep(step)) {
            return INVALID_ARGUMENT;
        }
        if (field.down) {
            return NOT_POSSIBLE;
        }
        history.record(field);
        return field.passTick(step);
    }

    public int bomb() {
        if (!field.canBomb()) {
            return NOT_POSSIBLE;
        }
        history.record(field);
        return field.throwBomb();
    }

    public int clearField() {
        history.record(field);
        return field.sweep();
    }

    public int set(int what, int value) {
        if (!isSetting(what, value)) {
            return INVALID_ARGUMENT;
        }
        history.record(field);
        int before = field.settings[what];
        field.settings[what] = value;
        return before;
    }

    // ---- texts

    public int append(int code) {
        if (code < 33 || code > 126) {
            return INVALID_ARGUMENT;
        }
        if (pad.isFull()) {
            return LIMIT_REACHED;
        }
        pad.add(code);
        return pad.length;
    }

    public int clear() {
        int before = pad.length;
        pad.length = 0;
        return before;
    }

    public int fault(int way) {
        if (way == CURTAIN) {
            return reader.faultIn(pad);
        }
        if (way == STEPS) {
            return pad.faultInSteps();
        }
        return INVALID_ARGUMENT;
    }

    public int hang() {
        if (reader.faultIn(pad) != NOT_FOUND) {
            return NOT_POSSIBLE;
        }
        history.record(field);
        field.emitters.copyFrom(reader.emitters);
        pad.length = 0;
        return field.emitters.size;
    }

    public int play() {
        if (pad.faultInSteps() != NOT_FOUND) {
            return NOT_POSSIBLE;
        }
        history.record(field);
        int played = 0;
        while (played < pad.length && playOne(pad.codes[played])) {
            played++;
        }
        pad.length = 0;
        return played;
    }

    private boolean playOne(int code) {
        if (code == 'b') {
            if (!field.canBomb()) {
                return false;
            }
            field.throwBomb();
            return true;
        }
        if (field.down) {
            return false;
        }
        field.passTick(code == 'l' ? -1 : code == 'r' ? 1 : 0);
        return true;
    }

    // ---- looks; nothing is changed

    public int emitterOf(int emitter, int what) {
        if (!field.emitters.has(emitter)) {
            return INVALID_ARGUMENT;
        }
        switch (what) {
            case 0:
                return field.emitters.columns[emitter];
            case 1:
                return field.emitters.patterns[emitter];
            case 2:
                return field.emitters.periods[emitter];
            case 3:
                return field.emitters.phases[emitter];
            case 4:
                return field.emitters.ticksToFire(emitter, field.ticks);
            default:
                return INVALID_ARGUMENT;
        }
    }

    public int bullet(int bullet, int what) {
        if (!field.bullets.has(bullet)) {
            return INVALID_ARGUMENT;
        }
        switch (what) {
            case 0:
                return field.bullets.rows[bullet];
            case 1:
                return field.bullets.columns[bullet];
            case 2:
                return field.bullets.drifts[bullet] + 1;
            case 3:
                return field.bullets.weaving[bullet] ? 1 : 0;
            case 4:
                return field.bullets.grazed[bullet] ? 1 : 0;
            default:
                return INVALID_ARGUMENT;
        }
    }

    public int at(int row, int column) {
        if (row < 0 || row > LAST_ROW || !isColumn(column)) {
            return INVALID_ARGUMENT;
        }
        return field.bullets.countIn(row, column);
    }

    public int count(int what) {
        if (what >= FIRST_ACCOUNT && what < FIRST_ACCOUNT + ACCOUNTS) {
            return field.accounts[what - FIRST_ACCOUNT];
        }
        switch (what) {
            case 0:
                return field.emitters.size;
            case 1:
                return field.bullets.size;
            case 2:
                return field.sprite;
            case 3:
                return field.shields;
            case 4:
                return field.bombs;
            case 5:
                return field.ticks;
            case 6:
                return field.down ? 1 : 0;
            case 15:
                return field.settings[TURN];
            case 16:
                return field.settings[BLAST];
            case 17:
                return pad.length;
            case 18:
                return history.size;
            default:
                return INVALID_ARGUMENT;
        }
    }

    // ---- lanes, what would be; nothing is changed

    public int free(int tick) {
        if (tick < 0 || tick > MAX_TICKS) {
            return INVALID_ARGUMENT;
        }
        foresee(tick);
        return lanes.free[tick];
    }

    public int lane(int tick, int what) {
        if (tick < 0 || tick > MAX_TICKS) {
            return INVALID_ARGUMENT;
        }
        if (what < 0 || what > 2) {
            return INVALID_ARGUMENT;
        }
        foresee(tick);
        if (what == 0) {
            return lanes.countLanes(tick);
        }
        return what == 1 ? lanes.widest(tick) : lanes.startOfWidest(tick);
    }

    public int ends(int ticks, int way) {
        if (!isSpan(ticks) || way < 0 || way > 1) {
            return INVALID_ARGUMENT;
        }
        foresee(ticks);
        return way == 0 ? lanes.endsForwards(field.sprite, ticks) : lanes.endsBackwards(field.sprite, ticks);
    }

    public int way(int ticks, int tick) {
        if (!isSpan(ticks) || tick < 0 || tick > ticks) {
            return INVALID_ARGUMENT;
        }
        foresee(ticks);
        return lanes.calmestAt(field.sprite, ticks, tick);
    }

    public int asides(int ticks) {
        if (!isSpan(ticks)) {
            return INVALID_ARGUMENT;
        }
        foresee(ticks);
        return lanes.fewestAsides(field.sprite, ticks);
    }

    public int fair() {
        foresee(MAX_TICKS);
        return lanes.longestWay(field.sprite);
    }

    public int shuts(int ticks) {
        if (!isSpan(ticks)) {
            return INVALID_ARGUMENT;
        }
        if (field.emitters.size == 0) {
            return NOT_POSSIBLE;
        }
        int shutting = 0;
        int mostFree = -1;
        for (int emitter = 0; emitter < field.emitters.size; emitter++) {
            trial.copyFrom(field);
            trial.emitters.remove(emitter);
            lanes.foresee(trial, ticks);
            int free = lanes.sumFree(ticks);
            if (free > mostFree) {
                mostFree = free;
                shutting = emitter;
            }
        }
        return shutting;
    }

    public int ifStepped(int step, int ticks, int what) {
        if (!isStep(step) || !isSpan(ticks) || what < 0 || what > 2) {
            return INVALID_ARGUMENT;
        }
        if (field.down) {
            return NOT_POSSIBLE;
        }
        trial.copyFrom(field);
        int passed = 0;
        while (passed < ticks && !trial.down) {
            trial.passTick(step);
            passed++;
        }
        if (what == 0) {
            return trial.accounts[HITS] - field.accounts[HITS];
        }
        if (what == 1) {
            return trial.accounts[GRAZES] - field.accounts[GRAZES];
        }
        return trial.down ? passed : NOT_FOUND;
    }

    public double openness(int ticks) {
        if (!isSpan(ticks)) {
            return -1.0;
        }
        foresee(ticks);
        return (double) lanes.sumFree(ticks) / (double) (COLUMNS * ticks);
    }

    private void foresee(int ticks) {
        trial.copyFrom(field);
        lanes.foresee(trial, ticks);
    }

    // ---- history, snapshot

    public int undo() {
        if (history.size == 0) {
            return NOT_POSSIBLE;
        }
        history.takeBack(field);
        return history.size;
    }

    public int save() {
        snapshot.copyFrom(field);
        hasSnapshot = true;
        return field.ticks;
    }

    public int restore() {
        if (!hasSnapshot) {
            return NOT_POSSIBLE;
        }
        history.record(field);
        field.copyFrom(snapshot);
        return field.ticks;
    }

    // ---- ranges of arguments

    private static boolean isColumn(int column) {
        return column >= 0 && column < COLUMNS;
    }

    private static boolean isPattern(int pattern) {
        return pattern >= FALLS && pattern <= FANS_OUT;
    }

    private static boolean isPeriod(int period) {
        return period >= 1 && period <= MAX_PERIOD;
    }

    private static boolean isStep(int step) {
        return step >= -1 && step <= 1;
    }

    private static boolean isSpan(int ticks) {
        return ticks >= 1 && ticks <= MAX_TICKS;
    }

    private static boolean isSetting(int what, int value) {
        if (what == TURN) {
            return value == 0 || value == 1;
        }
        return what == BLAST && value >= 1 && value <= MAX_BLAST;
    }

    /** The emitters, by their numbers. */
    private static final class Emitters {
        final int[] columns = new int[MAX_EMITTERS];
        final int[] patterns = new int[MAX_EMITTERS];
        final int[] periods = new int[MAX_EMITTERS];
        final int[] phases = new int[MAX_EMITTERS];
        int size = 0;

        boolean has(int emitter) {
            return emitter >= 0 && emitter < size;
        }

        boolean isFull() {
            return size >= MAX_EMITTERS;
        }

        void add(int column, int pattern, int period, int phase) {
            if (isFull()) {
                return;
            }
            columns[size] = column;
            patterns[size] = pattern;
            periods[size] = period;
            phases[size] = phase;
            size++;
        }

        void remove(int emitter) {
            if (!has(emitter)) {
                return;
            }
            for (int next = emitter + 1; next < size; next++) {
                put(next - 1, this, next);
            }
            size--;
        }

        void copyFrom(Emitters other) {
            size = other.size;
            for (int emitter = 0; emitter < size; emitter++) {
                put(emitter, other, emitter);
            }
        }

        private void put(int to, Emitters other, int from) {
            columns[to] = other.columns[from];
            patterns[to] = other.patterns[from];
            periods[to] = other.periods[from];
            phases[to] = other.phases[from];
        }

        boolean firesAt(int emitter, int tick) {
            int period = periods[emitter];
            return period > 0 && tick % period == phases[emitter];
        }

        int ticksToFire(int emitter, int tick) {
            int wait = 1;
            while (wait < periods[emitter] && !firesAt(emitter, tick + wait)) {
                wait++;
            }
            return wait;
        }
    }

    /** The bullets that are there, in the order in which they were fired. */
    private static final class Bullets {
        final int[] rows = new int[MAX_BULLETS];
        final int[] columns = new int[MAX_BULLETS];
        final int[] drifts = new int[MAX_BULLETS];
        final boolean[] weaving = new boolean[MAX_BULLETS];
        final boolean[] grazed = new boolean[MAX_BULLETS];
        int size = 0;

        boolean has(int bullet) {
            return bullet >= 0 && bullet < size;
        }

        /** Returns false if there is no room for one more. */
        boolean add(int column, int drift, boolean weaves) {
            if (size >= MAX_BULLETS) {
                return false;
            }
            rows[size] = 0;
            columns[size] = column;
            drifts[size] = drift;
            weaving[size] = weaves;
            grazed[size] = false;
            size++;
            return true;
        }

        void copyFrom(Bullets other) {
            size = other.size;
            for (int bullet = 0; bullet < size; bullet++) {
                put(bullet, other, bullet);
            }
        }

        private void put(int to, Bullets other, int from) {
            rows[to] = other.rows[from];
            columns[to] = other.columns[from];
            drifts[to] = other.drifts[from];
            weaving[to] = other.weaving[from];
            grazed[to] = other.grazed[from];
        }

        int countIn(int row, int column) {
            int found = 0;
            for (int bullet = 0; bullet < size; bullet++) {
                if (rows[bullet] == row && columns[bullet] == column) {
                    found++;
                }
            }
            return found;
        }

        /** Lets all fall one row; returns how many leave. */
        int fall(boolean turnAtWalls) {
            int kept = 0;
            for (int bullet = 0; bullet < size; bullet++) {
                if (turnAtWalls && !isColumn(columns[bullet] + drifts[bullet])) {
                    drifts[bullet] = -drifts[bullet];
                }
                rows[bullet]++;
                columns[bullet] += drifts[bullet];
                if (weaving[bullet]) {
                    drifts[bullet] = -drifts[bullet];
                }
                if (rows[bullet] <= LAST_ROW && isColumn(columns[bullet])) {
                    put(kept, this, bullet);
                    kept++;
                }
            }
            return keepOnly(kept);
        }

        // With the reach 0 this is the cell of the sprite alone, so hits and bombs share it.
        int takeAround(int column, int reach) {
            int kept = 0;
            for (int bullet = 0; bullet < size; bullet++) {
                boolean low = rows[bullet] >= LAST_ROW - reach;
                if (!low || Math.abs(columns[bullet] - column) > reach) {
                    put(kept, this, bullet);
                    kept++;
                }
            }
            return keepOnly(kept);
        }

        /** Returns how many are grazed that were not before. */
        int grazeBeside(int column) {
            int fresh = 0;
            for (int bullet = 0; bullet < size; bullet++) {
                if (!grazed[bullet] && isBeside(bullet, column)) {
                    grazed[bullet] = true;
                    fresh++;
                }
            }
            return fresh;
        }

        private boolean isBeside(int bullet, int column) {
            int apart = Math.abs(columns[bullet] - column);
            if (rows[bullet] == LAST_ROW) {
                return apart == 1;
            }
            return rows[bullet] == LAST_ROW - 1 && apart <= 1;
        }

        int freeColumns() {
            int free = (1 << COLUMNS) - 1;
            for (int bullet = 0; bullet < size; bullet++) {
                if (rows[bullet] == LAST_ROW) {
                    free &= ~(1 << columns[bullet]);
                }
            }
            return free;
        }

        int keepOnly(int kept) {
            int gone = size - kept;
            size = kept;
            return gone;
        }
    }

    /** Everything but the pad, the history and the snapshot. */
    private static final class Field {
        final Emitters emitters = new Emitters();
        final Bullets bullets = new Bullets();
        final int[] settings = new int[SETTINGS];
        final int[] accounts = new int[ACCOUNTS];
        int sprite = FIRST_SPRITE_COLUMN;
        int shields = FULL_SHIELDS;
        int bombs = FULL_BOMBS;
        int ticks = 0;
        boolean down = false;

        Field() {
            settings[BLAST] = FIRST_BLAST;
        }

        void copyFrom(Field other) {
            emitters.copyFrom(other.emitters);
            bullets.copyFrom(other.bullets);
            System.arraycopy(other.settings, 0, settings, 0, SETTINGS);
            System.arraycopy(other.accounts, 0, accounts, 0, ACCOUNTS);
            sprite = other.sprite;
            shields = other.shields;
            bombs = other.bombs;
            ticks = other.ticks;
            down = other.down;
        }

        /** Returns 1 if the sprite is hit, 2 if it is down by that, otherwise 0. */
        int passTick(int step) {
            if (isColumn(sprite + step)) {
                sprite += step;
            }
            advance();
            int hit = takeHits();
            if (!down) {
                accounts[GRAZES] += bullets.grazeBeside(sprite);
            }
            return hit;
        }

        // Apart from passTick, because in a forecast the sprite is neither hit nor grazes.
        void advance() {
            ticks++;
            accounts[LEFT] += bullets.fall(settings[TURN] == 1);
            for (int emitter = 0; emitter < emitters.size; emitter++) {
                if (emitters.firesAt(emitter, ticks)) {
                    fire(emitters.columns[emitter], emitters.patterns[emitter]);
                }
            }
        }

        private void fire(int column, int pattern) {
            switch (pattern) {
                case FALLS:
                    shoot(column, 0, false);
                    break;
                case GOES_LEFT:
                    shoot(column, -1, false);
                    break;
                case GOES_RIGHT:
                    shoot(column, 1, false);
                    break;
                case WEAVES:
                    shoot(column, 1, true);
                    break;
                case AIMS:
                    shoot(column, Integer.compare(sprite, column), false);
                    break;
                default:
                    for (int drift = -1; drift <= 1; drift++) {
                        shoot(column, drift, false);
                    }
                    break;
            }
        }

        private void shoot(int column, int drift, boolean weaves) {
            if (bullets.add(column, drift, weaves)) {
                accounts[FIRED]++;
            } else {
                accounts[STIFLED]++;
            }
        }

        private int takeHits() {
            int hitting = bullets.takeAround(sprite, 0);
            if (hitting == 0) {
                return 0;
            }
            accounts[HITTING] += hitting;
            accounts[HITS]++;
            if (shields == 0) {
                down = true;
                return 2;
            }
            shields--;
            return 1;
        }

        boolean canBomb() {
            return !down && bombs > 0;
        }

        int throwBomb() {
            bombs--;
            int taken = bullets.takeAround(sprite, settings[BLAST]);
            accounts[BOMBED] += taken;
            return taken;
        }

        int sweep() {
            int gone = bullets.keepOnly(0);
            accounts[CLEARED] += gone;
            shields = FULL_SHIELDS;
            bombs = FULL_BOMBS;
            down = false;
            return gone;
        }
    }

    /** The states before the latest changes, the oldest one first. */
    private static final class History {
        private final Field[] states = new Field[HISTORY_SIZE];
        int size = 0;

        History() {
            for (int i = 0; i < HISTORY_SIZE; i++) {
                states[i] = new Field();
            }
        }

        void record(Field field) {
            if (size >= HISTORY_SIZE) {
                dropOldest();
            }
            states[size].copyFrom(field);
            size++;
        }

        // The oldest state's room becomes that of the next one, so that no new one is made.
        private void dropOldest() {
            Field oldest = states[0];
            for (int i = 1; i < HISTORY_SIZE; i++) {
                states[i - 1] = states[i];
            }
            states[HISTORY_SIZE - 1] = oldest;
            size = HISTORY_SIZE - 1;
        }

        void takeBack(Field field) {
            if (size > 0) {
                size--;
                field.copyFrom(states[size]);
            }
        }
    }

    /** The characters of the pad. */
    private static final class Pad {
        final int[] codes = new int[PAD_SIZE];
        int length = 0;

        boolean isFull() {
            return length >= PAD_SIZE;
        }

        void add(int code) {
            if (!isFull()) {
                codes[length] = code;
                length++;
            }
        }

        int faultInSteps() {
            for (int i = 0; i < length; i++) {
                if (!isStepSign(codes[i])) {
                    return i;
                }
            }
            return length == 0 ? 0 : NOT_FOUND;
        }

        private static boolean isStepSign(int code) {
            return code == 'l' || code == 's' || code == 'r' || code == 'b';
        }
    }

    /** Reads a pad as a curtain, sign by sign, and keeps the emitters that it has read. */
    private static final class CurtainReader {
        private static final int COLUMN = 0, PATTERN = 1, PERIOD = 2, AFTER_PERIOD = 3, PHASE = 4, AFTER_PHASE = 5;

        final Emitters emitters = new Emitters();
        private int due = COLUMN;
        private int column = 0;
        private int pattern = 0;

        int faultIn(Pad pad) {
            emitters.size = 0;
            due = COLUMN;
            for (int i = 0; i < pad.length; i++) {
                if (!takes(pad.codes[i])) {
                    return i;
                }
            }
            return due == AFTER_PERIOD || due == AFTER_PHASE ? NOT_FOUND : pad.length;
        }

        /** Returns false if the sign is wrong here. */
        private boolean takes(int code) {
            switch (due) {
                case COLUMN:
                    return takesColumn(code - '0');
                case PATTERN:
                    return takesPattern(patternOf(code));
                case PERIOD:
                    return takesPeriod(code - '0');
                case PHASE:
                    return takesPhase(code - '0');
                default:
                    return takesMark(code);
            }
        }

        private boolean takesColumn(int digit) {
            column = digit;
            due = PATTERN;
            return isColumn(digit);
        }

        private boolean takesPattern(int number) {
            pattern = number;
            due = PERIOD;
            return isPattern(number);
        }

        private boolean takesPeriod(int digit) {
            if (!isPeriod(digit)) {
                return false;
            }
            emitters.add(column, pattern, digit, 0);
            due = AFTER_PERIOD;
            return true;
        }

        private boolean takesPhase(int digit) {
            int latest = emitters.size - 1;
            if (latest < 0 || digit < 0 || digit >= emitters.periods[latest]) {
                return false;
            }
            emitters.phases[latest] = digit;
            due = AFTER_PHASE;
            return true;
        }

        private boolean takesMark(int code) {
            if (code == '+' && due == AFTER_PERIOD) {
                due = PHASE;
                return true;
            }
            if (code == ';' && !emitters.isFull()) {
                due = COLUMN;
                return true;
            }
            return false;
        }

        private static int patternOf(int code) {
            switch (code) {
                case 'd':
                    return FALLS;
                case 'l':
                    return GOES_LEFT;
                case 'r':
                    return GOES_RIGHT;
                case 'w':
                    return WEAVES;
                case 'a':
                    return AIMS;
                case 'f':
                    return FANS_OUT;
                default:
                    return NOT_FOUND;
            }
        }
    }

    /** The free columns of a forecast, and the lanes and ways that they leave. */
    private static final class Lanes {
        // More steps aside than any way has.
        private static final int NO_WAY = 1000;

        final int[] free = new int[MAX_TICKS + 1];
        private final int[][] asidesFrom = new int[MAX_TICKS + 1][COLUMNS];

        // The trial field is used up by this: callers hand in a copy.
        void foresee(Field trial, int ticks) {
            free[0] = trial.bullets.freeColumns();
            for (int tick = 1; tick <= ticks; tick++) {
                trial.advance();
                free[tick] = trial.bullets.freeColumns();
            }
        }

        int sumFree(int ticks) {
            int sum = 0;
            for (int tick = 1; tick <= ticks; tick++) {
                sum += Integer.bitCount(free[tick]);
            }
            return sum;
        }

        private boolean isFree(int tick, int column) {
            return isColumn(column) && (free[tick] >> column & 1) == 1;
        }

        int countLanes(int tick) {
            int found = 0;
            for (int column = 0; column < COLUMNS; column++) {
                if (isFree(tick, column) && !isFree(tick, column - 1)) {
                    found++;
                }
            }
            return found;
        }

        int widest(int tick) {
            int most = 0;
            for (int column = 0; column < COLUMNS; column++) {
                most = Math.max(most, widthFrom(tick, column));
            }
            return most;
        }

        int startOfWidest(int tick) {
            int most = widest(tick);
            for (int column = 0; column < COLUMNS; column++) {
                if (most > 0 && widthFrom(tick, column) == most) {
                    return column;
                }
            }
            return NOT_FOUND;
        }

        private int widthFrom(int tick, int column) {
            int end = column;
            while (end < COLUMNS && isFree(tick, end)) {
                end++;
            }
            return end - column;
        }

        private static int spread(int columns) {
            return columns | columns << 1 | columns >> 1;
        }

        int endsForwards(int sprite, int ticks) {
            int reached = 1 << sprite;
            for (int tick = 1; tick <= ticks; tick++) {
                reached = spread(reached) & free[tick];
            }
            return Integer.bitCount(reached);
        }

        int endsBackwards(int sprite, int ticks) {
            int found = 0;
            for (int column = 0; column < COLUMNS; column++) {
                if (leadsBack(column, sprite, ticks)) {
                    found++;
                }
            }
            return found;
        }

        private boolean leadsBack(int column, int sprite, int ticks) {
            int origins = 1 << column;
            for (int tick = ticks; tick >= 1; tick--) {
                origins = spread(origins & free[tick]);
            }
            return (origins >> sprite & 1) == 1;
        }

        int longestWay(int sprite) {
            int reached = 1 << sprite;
            for (int tick = 1; tick <= MAX_TICKS; tick++) {
                reached = spread(reached) & free[tick];
                if (reached == 0) {
                    return tick - 1;
                }
            }
            return MAX_TICKS;
        }

        int fewestAsides(int sprite, int ticks) {
            tellAsides(ticks);
            int fewest = fewestAfter(0, sprite, ticks);
            return fewest < NO_WAY ? fewest : NOT_FOUND;
        }

        int calmestAt(int sprite, int ticks, int tick) {
            if (fewestAsides(sprite, ticks) == NOT_FOUND) {
                return NOT_FOUND;
            }
            int column = sprite;
            for (int passed = 0; passed < tick; passed++) {
                column = calmestNext(passed, column);
            }
            return column;
        }

        // Backwards, so that the way can then be walked from its first column on, the least columns first.
        private void tellAsides(int ticks) {
            for (int tick = ticks; tick >= 1; tick--) {
                for (int column = 0; column < COLUMNS; column++) {
                    asidesFrom[tick][column] = isFree(tick, column) ? fewestAfter(tick, column, ticks) : NO_WAY;
                }
            }
        }

        private int fewestAfter(int tick, int column, int ticks) {
            if (tick >= ticks) {
                return 0;
            }
            return Math.min(NO_WAY, asidesBy(tick + 1, column, calmestNext(tick, column)));
        }

        private int asidesBy(int tick, int from, int to) {
            return asidesFrom[tick][to] + (from == to ? 0 : 1);
        }

        private int calmestNext(int tick, int column) {
            int best = column;
            int fewest = 2 * NO_WAY;
            for (int next = Math.max(column - 1, 0); next <= Math.min(column + 1, COLUMNS - 1); next++) {
                int asides = asidesBy(tick + 1, column, next);
                if (asides < fewest) {
                    fewest = asides;
                    best = next;
                }
            }
            return best;
        }
    }
}
