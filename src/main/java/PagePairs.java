/**
 * Two blocks of paged wordlines with the requests that wait for them, power that is cut,
 * commands as a text, and undo. Every call answers a number; the negative ones are errors.
 */
public final class PagePairs {
    public static final int INVALID_ARGUMENT = -1;
    public static final int NOT_POSSIBLE = -2;
    public static final int LIMIT_REACHED = -3;
    public static final int NOT_FOUND = -4;

    private static final int BLOCKS = 2;
    private static final int KEYS = 12;
    private static final int MOST_VALUE = 999;
    private static final int WORDLINES = 8;
    private static final int POSITIONS = 16;
    /** A block's slots: its pages by their positions, then its backups by their wordlines. */
    private static final int SLOTS = POSITIONS + WORDLINES;
    private static final int CELLS = BLOCKS * SLOTS;
    private static final int NOWHERE = -1;
    /** Of each position: its wordline, and 1 if its page is a late one. */
    private static final int[] WORDLINE = {0, 1, 0, 2, 1, 3, 2, 4, 3, 5, 4, 6, 5, 7, 6, 7};
    private static final int[] LATE = {0, 0, 1, 0, 1, 0, 1, 0, 1, 0, 1, 0, 1, 0, 1, 1};

    /** The kinds of a cell; of a backup: there is none, it is not complete, it is complete. */
    private static final int BLANK = 0;
    private static final int BEING_WRITTEN = 1;
    private static final int WRITTEN = 2;
    private static final int TORN = 3;

    private static final int RESTORED = 0;
    private static final int URGENT = 1;
    private static final int NOT_URGENT = 2;
    private static final int CLEANED = 3;
    private static final int MOST_REQUESTS = 8;

    private static final int EARLY_TICKS = 0;
    private static final int LATE_TICKS = 1;
    private static final int BACKUPS_MADE = 2;
    private static final int WEAR_STEP = 3;
    private static final int SETTINGS = 4;
    private static final int[] SETTING_FIRST = {2, 5, 1, 3};
    private static final int[] SETTING_LEAST = {1, 1, 0, 1};
    private static final int[] SETTING_MOST = {9, 20, 1, 99};
    private static final int MOST_SLOWNESS = 5;

    private static final int BACKUP_TICKS = 2;
    private static final int MOST_TICKS = 200;
    private static final int MOST_TIME = 9000;
    /** Far more rounds than eight requests that wait can need. */
    private static final int MOST_ROUNDS = 1000;

    private static final int MOST_STATES = 4;
    private static final int MOST_SIGNS = 60;
    private static final int MOST_DIGITS = 3;

    private final State now;
    /** Where a call tries what would be, so that the present state stays as it is. */
    private final State trial;
    private final History history;
    private final Text text;
    private final Script script;

    public PagePairs() {
        now = new State();
        trial = new State();
        history = new History();
        text = new Text();
        script = new Script();
    }

    // ---- requests, ticks

    public int write(int key, int value, int urgent) {
        if (!isIn(urgent, 0, 1)) {
            return INVALID_ARGUMENT;
        }
        history.note(now);
        return keepChange(now.askFor(key, value, urgent == 1 ? URGENT : NOT_URGENT));
    }

    public int tick(int many) {
        history.note(now);
        return keepChange(now.letTicks(many));
    }

    // ---- power

    public int cut() {
        history.note(now);
        return keepChange(now.cutPower());
    }

    public int on() {
        history.note(now);
        return keepChange(now.restorePower());
    }

    // ---- blocks

    public int turn() {
        history.note(now);
        return keepChange(now.turnToOther());
    }

    public int clean(int block) {
        history.note(now);
        return keepChange(now.cleanBlock(block));
    }

    public int erase(int block) {
        history.note(now);
        return keepChange(now.eraseBlock(block));
    }

    public int slow(int wordline, int ticks) {
        history.note(now);
        return keepChange(now.changeSlowness(wordline, ticks));
    }

    public int set(int what, int value) {
        history.note(now);
        return keepChange(now.changeSetting(what, value));
    }

    // ---- what there is

    public int read(int key) {
        return now.valueOfKey(key);
    }

    public int placeOf(int key, int what) {
        return now.placeFact(key, what);
    }

    public int pageOf(int block, int position, int what) {
        return now.pageFact(block, position, what);
    }

    public int backupOf(int block, int wordline, int what) {
        return now.backupFact(block, wordline, what);
    }

    public int waits(int index, int what) {
        return now.requestFact(index, what);
    }

    public int count(int what) {
        if (what == 16) {
            return history.size();
        }
        if (what == 17) {
            return text.length();
        }
        return now.numberOf(what);
    }

    // ---- what would be

    public int wouldLose(int ticks) {
        if (!isIn(ticks, 0, MOST_TICKS)) {
            return INVALID_ARGUMENT;
        }
        if (!now.hasPower()) {
            return NOT_POSSIBLE;
        }
        trial.copyFrom(now);
        trial.pass(ticks);
        return trial.loseByCut();
    }

    public int doneIn() {
        if (!now.hasPower()) {
            return NOT_POSSIBLE;
        }
        trial.copyFrom(now);
        return trial.passUntilDone();
    }

    public int undo() {
        return history.restore(now);
    }

    // ---- texts

    public int type(int character) {
        return text.append(character);
    }

    public int clearText() {
        return text.makeEmpty();
    }

    public int fault(int what) {
        if (!isIn(what, 0, 2)) {
            return INVALID_ARGUMENT;
        }
        trial.copyFrom(now);
        script.run(text, trial);
        return script.faultFact(what);
    }

    public int play() {
        trial.copyFrom(now);
        script.run(text, trial);
        if (script.hasFault()) {
            return NOT_POSSIBLE;
        }
        history.note(now);
        now.copyFrom(trial);
        return keepChange(script.commandsDone());
    }

    /** Keeps the noted state unless the answer is an error, which changes nothing. */
    private int keepChange(int answer) {
        if (answer >= 0) {
            history.keep();
        }
        return answer;
    }

    private static boolean isIn(int number, int least, int most) {
        return number >= least && number <= most;
    }

    private static int valueAt(int[] row, int index) {
        return index >= 0 && index < row.length ? row[index] : 0;
    }

    private static void putAt(int[] row, int index, int value) {
        if (index >= 0 && index < row.length) {
            row[index] = value;
        }
    }

    private static void copyRow(int[] from, int[] to) {
        System.arraycopy(from, 0, to, 0, Math.min(from.length, to.length));
    }

    /** Rounded down; 0 if there is nothing to divide by. */
    private static int quotient(int number, int divisor) {
        return divisor > 0 ? number / divisor : 0;
    }

    private static int cellOf(int block, int slot) {
        return block * SLOTS + slot;
    }

    private static int earlyPosition(int wordline) {
        return wordline == 0 ? 0 : 2 * wordline - 1;
    }

    /** The pages and backups of both blocks: the slots of block 0, then those of block 1. */
    private static final class Cells {
        private final int[] kinds = new int[CELLS];
        private final int[] keys = new int[CELLS];
        private final int[] values = new int[CELLS];
        private final int[] stamps = new int[CELLS];

        void copyFrom(Cells other) {
            copyRow(other.kinds, kinds);
            copyRow(other.keys, keys);
            copyRow(other.values, values);
            copyRow(other.stamps, stamps);
        }

        int kind(int cell) {
            return cell >= 0 && cell < CELLS ? kinds[cell] : BLANK;
        }

        int key(int cell) {
            return cell >= 0 && cell < CELLS ? keys[cell] : NOWHERE;
        }

        int value(int cell) {
            return cell >= 0 && cell < CELLS ? values[cell] : 0;
        }

        int stamp(int cell) {
            return cell >= 0 && cell < CELLS ? stamps[cell] : 0;
        }

        /** Answers the key for 1, the value for 2, the stamp for 3. */
        int fact(int cell, int what) {
            if (what == 1) {
                return key(cell);
            }
            return what == 2 ? value(cell) : stamp(cell);
        }

        void begin(int cell, int key, int value, int stamp) {
            if (cell >= 0 && cell < CELLS) {
                kinds[cell] = BEING_WRITTEN;
                keys[cell] = key;
                values[cell] = value;
                stamps[cell] = stamp;
            }
        }

        void beginBackup(int early, int backup) {
            if (early >= 0 && early < CELLS && backup >= 0 && backup < CELLS) {
                kinds[backup] = BEING_WRITTEN;
                keys[backup] = keys[early];
                values[backup] = values[early];
                stamps[backup] = stamps[early];
            }
        }

        void mark(int cell, int kind) {
            if (cell >= 0 && cell < CELLS) {
                kinds[cell] = kind;
            }
        }

        void blankBlock(int block) {
            for (int slot = 0; slot < SLOTS; slot++) {
                mark(cellOf(block, slot), BLANK);
            }
        }

        boolean isBlankBlock(int block) {
            for (int position = 0; position < POSITIONS; position++) {
                if (kind(cellOf(block, position)) != BLANK) {
                    return false;
                }
            }
            return true;
        }

        /** A page stands ahead of its backup, which has the same stamp, so that the page is found. */
        int place(int key) {
            int found = NOWHERE;
            int greatest = 0;
            for (int cell = 0; cell < CELLS; cell++) {
                if (kinds[cell] == WRITTEN && keys[cell] == key && stamps[cell] > greatest) {
                    found = cell;
                    greatest = stamps[cell];
                }
            }
            return found;
        }

        boolean isPlace(int cell) {
            return kind(cell) == WRITTEN && place(key(cell)) == cell;
        }

        /** Answers 0 if the key has no place: stamps begin at 1. */
        int placeStamp(int key) {
            int cell = place(key);
            return cell == NOWHERE ? 0 : stamp(cell);
        }

        int placesInBlock(int block) {
            int places = 0;
            for (int slot = 0; slot < SLOTS; slot++) {
                if (isPlace(cellOf(block, slot))) {
                    places++;
                }
            }
            return places;
        }

        int tornPages() {
            int torn = 0;
            for (int cell = 0; cell < CELLS; cell++) {
                if (kinds[cell] == TORN) {
                    torn++;
                }
            }
            return torn;
        }

        int keysWithPlace() {
            int keysFound = 0;
            for (int key = 0; key < KEYS; key++) {
                if (place(key) != NOWHERE) {
                    keysFound++;
                }
            }
            return keysFound;
        }
    }

    /** The requests that wait, in the order in which they are taken. */
    private static final class Requests {
        private final int[] keys = new int[MOST_REQUESTS];
        private final int[] values = new int[MOST_REQUESTS];
        private final int[] urgencies = new int[MOST_REQUESTS];
        /** The stamps of the keys' places when the requests came; 0 if nobody asks for them. */
        private final int[] stamps = new int[MOST_REQUESTS];
        private int size;

        void copyFrom(Requests other) {
            copyRow(other.keys, keys);
            copyRow(other.values, values);
            copyRow(other.urgencies, urgencies);
            copyRow(other.stamps, stamps);
            size = other.size;
        }

        int size() {
            return size;
        }

        int key(int index) {
            return index >= 0 && index < MOST_REQUESTS ? keys[index] : 0;
        }

        int value(int index) {
            return index >= 0 && index < MOST_REQUESTS ? values[index] : 0;
        }

        int urgency(int index) {
            return index >= 0 && index < MOST_REQUESTS ? urgencies[index] : 0;
        }

        int stamp(int index) {
            return index >= 0 && index < MOST_REQUESTS ? stamps[index] : 0;
        }

        /** Behind all that have its urgency or a smaller one. */
        void add(int key, int value, int urgency, int stamp) {
            if (size >= MOST_REQUESTS) {
                return;
            }
            int index = size;
            while (index > 0 && urgency(index - 1) > urgency) {
                index--;
            }
            for (int to = size; to > index; to--) {
                move(to - 1, to);
            }
            size++;
            put(index, key, value, urgency, stamp);
        }

        void dropFirst() {
            for (int to = 0; to + 1 < size; to++) {
                move(to + 1, to);
            }
            size = Math.max(0, size - 1);
        }

        void makeEmpty() {
            size = 0;
        }

        private void move(int from, int to) {
            if (from >= 0 && from < MOST_REQUESTS && to >= 0 && to < MOST_REQUESTS) {
                keys[to] = keys[from];
                values[to] = values[from];
                urgencies[to] = urgencies[from];
                stamps[to] = stamps[from];
            }
        }

        private void put(int index, int key, int value, int urgency, int stamp) {
            if (index >= 0 && index < MOST_REQUESTS) {
                keys[index] = key;
                values[index] = value;
                urgencies[index] = urgency;
                stamps[index] = stamp;
            }
        }
    }

    /** What is being written; its ticks are told when it begins, whatever is set behind that. */
    private static final class Writing {
        private boolean busy;
        private boolean late;
        private int urgency;
        private int pageCell;
        private int earlyCell;
        private int backupCell;
        /** The ticks of the writing itself. */
        private int ownTicks;
        /** The ticks that are left, with those of the backup. */
        private int left;

        void copyFrom(Writing other) {
            busy = other.busy;
            late = other.late;
            urgency = other.urgency;
            pageCell = other.pageCell;
            earlyCell = other.earlyCell;
            backupCell = other.backupCell;
            ownTicks = other.ownTicks;
            left = other.left;
        }

        boolean isBehindBackup() {
            return left <= ownTicks;
        }

        boolean hasBegunItself() {
            return left < ownTicks;
        }

        boolean isAskedFor() {
            return urgency == URGENT || urgency == NOT_URGENT;
        }
    }

    /** What has been counted since the object was made. */
    private static final class Tallies {
        private int time;
        private int stamps;
        private int acknowledged;
        private int goneByCuts;
        private int lostKeys;
        private int cuts;
        private int backups;

        void copyFrom(Tallies other) {
            time = other.time;
            stamps = other.stamps;
            acknowledged = other.acknowledged;
            goneByCuts = other.goneByCuts;
            lostKeys = other.lostKeys;
            cuts = other.cuts;
            backups = other.backups;
        }
    }

    /** Everything but the text and the history. A call that answers an error changes nothing. */
    private static final class State {
        private final Cells cells = new Cells();
        private final Requests requests = new Requests();
        private final Writing writing = new Writing();
        private final Tallies tallies = new Tallies();
        private final int[] settings = new int[SETTINGS];
        private final int[] slowness = new int[WORDLINES];
        private final int[] erased = new int[BLOCKS];
        /** Only for the time of a cut: the stamps of the keys' places ahead of it. */
        private final int[] stampsAhead = new int[KEYS];
        private boolean power = true;
        private int active;
        private int next;

        State() {
            copyRow(SETTING_FIRST, settings);
        }

        void copyFrom(State other) {
            cells.copyFrom(other.cells);
            requests.copyFrom(other.requests);
            writing.copyFrom(other.writing);
            tallies.copyFrom(other.tallies);
            copyRow(other.settings, settings);
            copyRow(other.slowness, slowness);
            copyRow(other.erased, erased);
            power = other.power;
            active = other.active;
            next = other.next;
        }

        boolean hasPower() {
            return power;
        }

        // ---- requests, ticks

        int askFor(int key, int value, int urgency) {
            if (!isIn(key, 0, KEYS - 1) || !isIn(value, 0, MOST_VALUE)) {
                return INVALID_ARGUMENT;
            }
            if (!power) {
                return NOT_POSSIBLE;
            }
            if (requests.size() >= MOST_REQUESTS) {
                return LIMIT_REACHED;
            }
            requests.add(key, value, urgency, 0);
            return requests.size();
        }

        int letTicks(int many) {
            if (!isIn(many, 1, MOST_TICKS)) {
                return INVALID_ARGUMENT;
            }
            if (!power) {
                return NOT_POSSIBLE;
            }
            if (tallies.time + many > MOST_TIME) {
                return LIMIT_REACHED;
            }
            int before = tallies.acknowledged;
            pass(many);
            return tallies.acknowledged - before;
        }

        /** Ticks in which nothing begins or ends are gone through in one step. */
        void pass(int many) {
            int left = many;
            while (left > 0) {
                if (!writing.busy) {
                    takeRequests();
                }
                int step = writing.busy ? Math.max(1, Math.min(left, writing.left)) : left;
                tallies.time += step;
                if (writing.busy) {
                    goOn(step);
                }
                left -= step;
            }
        }

        /** Answers in how many ticks nothing waits or is being written, and lets them go by. */
        int passUntilDone() {
            int before = tallies.time;
            for (int round = 0; round < MOST_ROUNDS; round++) {
                if (!writing.busy && requests.size() == 0) {
                    return tallies.time - before;
                }
                if (!writing.busy && isFull()) {
                    return NOT_FOUND;
                }
                pass(writing.busy ? writing.left : 1);
            }
            return NOT_FOUND;
        }

        private boolean isFull() {
            return next >= POSITIONS;
        }

        private void takeRequests() {
            for (int taken = 0; taken < MOST_REQUESTS; taken++) {
                if (writing.busy || isFull() || requests.size() == 0) {
                    return;
                }
                if (!isOutdated()) {
                    beginWriting();
                }
                requests.dropFirst();
            }
        }

        /** Whether the first request is of a copy that is not the place of its key any more. */
        private boolean isOutdated() {
            int urgency = requests.urgency(0);
            if (urgency != RESTORED && urgency != CLEANED) {
                return false;
            }
            int place = cells.place(requests.key(0));
            return place == NOWHERE || cells.stamp(place) != requests.stamp(0);
        }

        private void beginWriting() {
            int wordline = valueAt(WORDLINE, next);
            writing.busy = true;
            writing.late = valueAt(LATE, next) == 1;
            writing.urgency = requests.urgency(0);
            writing.pageCell = cellOf(active, next);
            writing.earlyCell = cellOf(active, earlyPosition(wordline));
            writing.backupCell = cellOf(active, POSITIONS + wordline);
            writing.ownTicks = valueAt(settings, writing.late ? LATE_TICKS : EARLY_TICKS)
                    + valueAt(slowness, wordline)
                    + quotient(valueAt(erased, active), valueAt(settings, WEAR_STEP));
            writing.left = writing.ownTicks;
            next++;
            tallies.stamps++;
            cells.begin(writing.pageCell, requests.key(0), requests.value(0), tallies.stamps);
            if (writing.late && valueAt(settings, BACKUPS_MADE) == 1
                    && cells.kind(writing.earlyCell) == WRITTEN) {
                cells.beginBackup(writing.earlyCell, writing.backupCell);
                writing.left += BACKUP_TICKS;
            }
        }

        private void goOn(int ticks) {
            writing.left -= ticks;
            if (cells.kind(writing.backupCell) == BEING_WRITTEN && writing.isBehindBackup()) {
                cells.mark(writing.backupCell, WRITTEN);
                tallies.backups++;
            }
            if (writing.left <= 0) {
                finishWriting();
            }
        }

        private void finishWriting() {
            writing.busy = false;
            cells.mark(writing.pageCell, WRITTEN);
            if (writing.late) {
                cells.mark(writing.backupCell, BLANK);
            }
            if (writing.isAskedFor()) {
                tallies.acknowledged++;
            }
        }

        // ---- power

        int cutPower() {
            return power ? Integer.bitCount(loseByCut()) : NOT_POSSIBLE;
        }

        /** Cuts the power; answers the set of the keys that are lost by it. */
        int loseByCut() {
            for (int key = 0; key < stampsAhead.length; key++) {
                stampsAhead[key] = cells.placeStamp(key);
            }
            power = false;
            tallies.cuts++;
            tallies.goneByCuts += requests.size() + (writing.busy ? 1 : 0);
            requests.makeEmpty();
            if (writing.busy) {
                tearWriting();
            }
            int lost = 0;
            for (int key = 0; key < stampsAhead.length; key++) {
                if (stampsAhead[key] > 0 && cells.placeStamp(key) != stampsAhead[key]) {
                    lost |= 1 << key;
                }
            }
            tallies.lostKeys += Integer.bitCount(lost);
            return lost;
        }

        private void tearWriting() {
            writing.busy = false;
            cells.mark(writing.pageCell, TORN);
            if (writing.late && writing.hasBegunItself()) {
                cells.mark(writing.earlyCell, TORN);
            }
            if (cells.kind(writing.backupCell) == BEING_WRITTEN) {
                cells.mark(writing.backupCell, BLANK);
            }
        }

        int restorePower() {
            if (power) {
                return NOT_POSSIBLE;
            }
            power = true;
            for (int block = 0; block < BLOCKS; block++) {
                for (int slot = POSITIONS; slot < SLOTS; slot++) {
                    askForCopy(cellOf(block, slot), RESTORED);
                }
            }
            return requests.size();
        }

        /** Asks for a copy of what is in a cell, if that is the place of its key. */
        private void askForCopy(int cell, int urgency) {
            if (cells.isPlace(cell)) {
                requests.add(cells.key(cell), cells.value(cell), urgency, cells.stamp(cell));
            }
        }

        // ---- blocks

        int turnToOther() {
            int other = 1 - active;
            if (!power || writing.busy || !cells.isBlankBlock(other)) {
                return NOT_POSSIBLE;
            }
            active = other;
            next = 0;
            return other;
        }

        int cleanBlock(int block) {
            if (!isIn(block, 0, BLOCKS - 1)) {
                return INVALID_ARGUMENT;
            }
            if (!power || block == active) {
                return NOT_POSSIBLE;
            }
            int coming = cells.placesInBlock(block);
            if (requests.size() + coming > MOST_REQUESTS) {
                return LIMIT_REACHED;
            }
            for (int slot = 0; slot < SLOTS; slot++) {
                askForCopy(cellOf(block, slot), CLEANED);
            }
            return coming;
        }

        int eraseBlock(int block) {
            if (!isIn(block, 0, BLOCKS - 1)) {
                return INVALID_ARGUMENT;
            }
            if (!power || block == active || cells.placesInBlock(block) > 0) {
                return NOT_POSSIBLE;
            }
            cells.blankBlock(block);
            int times = valueAt(erased, block) + 1;
            putAt(erased, block, times);
            return times;
        }

        int changeSlowness(int wordline, int ticks) {
            if (!isIn(wordline, 0, WORDLINES - 1) || !isIn(ticks, 0, MOST_SLOWNESS)) {
                return INVALID_ARGUMENT;
            }
            int before = valueAt(slowness, wordline);
            putAt(slowness, wordline, ticks);
            return before;
        }

        int changeSetting(int what, int value) {
            if (!isIn(what, 0, SETTINGS - 1)
                    || !isIn(value, valueAt(SETTING_LEAST, what), valueAt(SETTING_MOST, what))) {
                return INVALID_ARGUMENT;
            }
            int before = valueAt(settings, what);
            putAt(settings, what, value);
            return before;
        }

        // ---- what there is

        int valueOfKey(int key) {
            if (!isIn(key, 0, KEYS - 1)) {
                return INVALID_ARGUMENT;
            }
            int cell = cells.place(key);
            return cell == NOWHERE ? NOT_FOUND : cells.value(cell);
        }

        int placeFact(int key, int what) {
            if (!isIn(key, 0, KEYS - 1) || !isIn(what, 0, 2)) {
                return INVALID_ARGUMENT;
            }
            int cell = cells.place(key);
            if (cell == NOWHERE) {
                return NOT_FOUND;
            }
            if (what == 0) {
                return cell / SLOTS;
            }
            return what == 1 ? cell % SLOTS : cells.stamp(cell);
        }

        int pageFact(int block, int position, int what) {
            if (!isIn(block, 0, BLOCKS - 1) || !isIn(position, 0, POSITIONS - 1) || !isIn(what, 0, 5)) {
                return INVALID_ARGUMENT;
            }
            int cell = cellOf(block, position);
            if (what == 0) {
                return cells.kind(cell);
            }
            if (what == 4) {
                return valueAt(WORDLINE, position);
            }
            if (what == 5) {
                return valueAt(LATE, position);
            }
            return cells.kind(cell) == WRITTEN ? cells.fact(cell, what) : NOT_FOUND;
        }

        int backupFact(int block, int wordline, int what) {
            if (!isIn(block, 0, BLOCKS - 1) || !isIn(wordline, 0, WORDLINES - 1) || !isIn(what, 0, 3)) {
                return INVALID_ARGUMENT;
            }
            int cell = cellOf(block, POSITIONS + wordline);
            if (cells.kind(cell) == BLANK) {
                return NOT_FOUND;
            }
            if (what == 0) {
                return cells.kind(cell) == WRITTEN ? 1 : 0;
            }
            return cells.fact(cell, what);
        }

        int requestFact(int index, int what) {
            if (index < 0 || !isIn(what, 0, 2)) {
                return INVALID_ARGUMENT;
            }
            if (index >= requests.size()) {
                return NOT_FOUND;
            }
            if (what == 0) {
                return requests.key(index);
            }
            return what == 1 ? requests.value(index) : requests.urgency(index);
        }

        int numberOf(int what) {
            switch (what) {
                case 0: return tallies.time;
                case 1: return power ? 1 : 0;
                case 2: return active;
                case 3: return next;
                case 4: return requests.size();
                case 5: return writing.busy ? 1 : 0;
                case 6: return writing.busy ? writing.left : NOT_FOUND;
                case 7: return tallies.acknowledged;
                case 8: return tallies.goneByCuts;
                case 9: return tallies.lostKeys;
                case 10: return cells.tornPages();
                case 11: return cells.keysWithPlace();
                case 12: return valueAt(erased, 0);
                case 13: return valueAt(erased, 1);
                case 14: return tallies.cuts;
                case 15: return tallies.backups;
                default: return settingOrSlowness(what);
            }
        }

        private int settingOrSlowness(int what) {
            if (isIn(what, 20, 20 + SETTINGS - 1)) {
                return valueAt(settings, what - 20);
            }
            if (isIn(what, 30, 30 + WORDLINES - 1)) {
                return valueAt(slowness, what - 30);
            }
            return INVALID_ARGUMENT;
        }
    }

    /** The states ahead of the latest changes, the oldest first. */
    private static final class History {
        /** One more than are kept, so that a state can be noted ahead of a call that may fail. */
        private final State[] states = new State[MOST_STATES + 1];
        private int size;

        History() {
            for (int index = 0; index < states.length; index++) {
                states[index] = new State();
            }
        }

        int size() {
            return size;
        }

        /** Notes the state ahead of a call; it belongs to the history only when it is kept. */
        void note(State state) {
            State noted = stateAt(size);
            if (noted != null) {
                noted.copyFrom(state);
            }
        }

        void keep() {
            size++;
            if (size > MOST_STATES) {
                dropOldest();
            }
        }

        int restore(State state) {
            if (size == 0) {
                return NOT_POSSIBLE;
            }
            size--;
            State latest = stateAt(size);
            if (latest != null) {
                state.copyFrom(latest);
            }
            return size;
        }

        private State stateAt(int index) {
            return index >= 0 && index < states.length ? states[index] : null;
        }

        /** The oldest one goes behind the others, where the next state is noted. */
        private void dropOldest() {
            State oldest = stateAt(0);
            for (int index = 0; index + 1 < states.length; index++) {
                states[index] = states[index + 1];
            }
            states[MOST_STATES] = oldest;
            size = MOST_STATES;
        }
    }

    /** The characters of the text, and the command in it that was read last. */
    private static final class Text {
        private final int[] signs = new int[MOST_SIGNS];
        private int length;
        /** Where the next command is read. */
        private int cursor;
        private int command;
        private int first;
        private int second;

        int length() {
            return length;
        }

        int append(int character) {
            if (!isIn(character, 32, 126)) {
                return INVALID_ARGUMENT;
            }
            if (length >= MOST_SIGNS) {
                return LIMIT_REACHED;
            }
            putAt(signs, length, character);
            length++;
            return length;
        }

        int makeEmpty() {
            int before = length;
            length = 0;
            return before;
        }

        void rewind() {
            cursor = 0;
        }

        boolean hasMore() {
            return cursor < length;
        }

        /** Reads the next command; answers whether it is of the form, its ";" included. */
        boolean readCommand() {
            command = sign();
            cursor++;
            int numbers = numbersOf(command);
            if (numbers < 0) {
                return false;
            }
            first = numbers > 0 ? readNumber() : 0;
            if (first < 0) {
                return false;
            }
            if (numbers == 2 && !readSign(',')) {
                return false;
            }
            second = numbers == 2 ? readNumber() : 0;
            return second >= 0 && readSign(';');
        }

        /** Answers how many numbers a command has, a negative number if there is no such command. */
        private static int numbersOf(int command) {
            switch (command) {
                case 'w': case 'u': return 2;
                case 't': case 'c': case 'e': return 1;
                case 'x': case 'o': case 's': return 0;
                default: return -1;
            }
        }

        /** Answers a negative number if there is no digit. */
        private int readNumber() {
            int number = 0;
            int digits = 0;
            while (digits < MOST_DIGITS && isIn(sign(), '0', '9')) {
                number = number * 10 + (sign() - '0');
                digits++;
                cursor++;
            }
            return digits == 0 ? -1 : number;
        }

        private boolean readSign(int wanted) {
            boolean found = sign() == wanted;
            cursor++;
            return found;
        }

        /** Answers 0, which is no character of a text, behind its end. */
        private int sign() {
            return cursor < length ? valueAt(signs, cursor) : 0;
        }
    }

    /** Does the commands of a text, up to the first one that is not possible. */
    private static final class Script {
        private int done;
        private boolean faulty;
        private int position;
        private int reason;
        private int cause;

        void run(Text text, State state) {
            done = 0;
            faulty = false;
            text.rewind();
            for (int command = 0; command < MOST_SIGNS && text.hasMore(); command++) {
                position = text.cursor;
                if (!text.readCommand()) {
                    tellFault(1, NOT_FOUND);
                    return;
                }
                int answer = perform(text, state);
                if (answer < 0) {
                    tellFault(2, answer);
                    return;
                }
                done++;
            }
        }

        boolean hasFault() {
            return faulty;
        }

        int commandsDone() {
            return done;
        }

        int faultFact(int what) {
            if (!faulty) {
                return NOT_FOUND;
            }
            if (what == 0) {
                return position;
            }
            return what == 1 ? reason : cause;
        }

        private void tellFault(int reason, int cause) {
            this.faulty = true;
            this.reason = reason;
            this.cause = cause;
        }

        private static int perform(Text text, State state) {
            switch (text.command) {
                case 'w': return state.askFor(text.first, text.second, NOT_URGENT);
                case 'u': return state.askFor(text.first, text.second, URGENT);
                case 't': return state.letTicks(text.first);
                case 'x': return state.cutPower();
                case 'o': return state.restorePower();
                case 's': return state.turnToOther();
                case 'c': return state.cleanBlock(text.first);
                case 'e': return state.eraseBlock(text.first);
                default: return NOT_POSSIBLE;
            }
        }
    }
}
