/**
 * A simulator of a replicated key-value store with version vectors, whose clients can ask for the
 * four client-centric consistency guarantees. README.md tells how to use it.
 */
public final class ClientGuarantees {
    public static final int OUT_OF_RANGE = -2;
    public static final int NOT_ALLOWED = -3;
    public static final int FULL = -4;
    public static final int ABSENT = -5;
    public static final int NOTHING_SAVED = -6;
    public static final int NONE = -1;

    private static final int REPLICAS = 3;
    private static final int KEYS = 4;
    private static final int CLIENTS = 4;
    private static final int VALUES = 100;
    private static final int ABSENT_VALUE = 100;
    private static final int MAX_WRITES = 60;
    private static final int MAX_SAVED = 4;

    private static final int GUARANTEES = 4;
    private static final int GUARANTEE_SETS = 16;
    private static final int READ_YOUR_WRITES = 1;
    private static final int MONOTONIC_READS = 2;
    private static final int WRITES_FOLLOW_READS = 4;
    private static final int MONOTONIC_WRITES = 8;

    private static final int MAX_TEXT = 100;
    private static final int BYTES = 128;
    private static final int MAX_NUMBERS = 4;
    private static final int MAX_DIGITS = 2;
    // The shortest command, such as "f0;", has three bytes; behind the last one that fits whole,
    // one more can begin.
    private static final int MAX_COMMANDS = MAX_TEXT / 3 + 1;

    private static final int SYNTAX_ERROR = -10;
    private static final int STOPPED = -1000;

    private static final int ERROR_CODES = 5;
    private static final long DIGEST_START = 2647;

    private final State state = new State();
    private final History history = new History();
    private final Script script = new Script();
    private final int[] errors = new int[ERROR_CODES];

    public ClientGuarantees() {
    }

    public int setGuarantees(int client, int guarantees) {
        history.prepare(state);
        return endUndoable(state.changeGuarantees(client, guarantees));
    }

    public int forget(int client) {
        history.prepare(state);
        return endUndoable(state.clearVectors(client));
    }

    public int readCount(int client, int origin) {
        if (!isClient(client) || !isReplica(origin)) {
            return counted(OUT_OF_RANGE);
        }
        return state.readVectors[client][origin];
    }

    public int writeCount(int client, int origin) {
        if (!isClient(client) || !isReplica(origin)) {
            return counted(OUT_OF_RANGE);
        }
        return state.writeVectors[client][origin];
    }

    public int read(int client, int replica, int key) {
        history.prepare(state);
        return endUndoable(state.readKey(client, replica, key));
    }

    public int write(int client, int replica, int key, int value) {
        history.prepare(state);
        return endUndoable(state.writeKey(client, replica, key, value));
    }

    public int sync(int from, int to) {
        history.prepare(state);
        return endUndoable(state.synchronize(from, to));
    }

    public int readBreaches(int client, int replica) {
        if (!isClient(client) || !isReplica(replica)) {
            return counted(OUT_OF_RANGE);
        }
        return state.unmetByRead(client, only(replica));
    }

    public int writeBreaches(int client, int replica) {
        if (!isClient(client) || !isReplica(replica)) {
            return counted(OUT_OF_RANGE);
        }
        return state.unmetByWrite(client, replica);
    }

    public int readableReplica(int client) {
        if (!isClient(client)) {
            return counted(OUT_OF_RANGE);
        }
        for (int replica = 0; replica < REPLICAS; replica++) {
            if (state.isReadAllowed(client, only(replica))) {
                return replica;
            }
        }
        return NONE;
    }

    public int writableReplica(int client) {
        if (!isClient(client)) {
            return counted(OUT_OF_RANGE);
        }
        for (int replica = 0; replica < REPLICAS; replica++) {
            if (state.isWriteAllowed(client, replica)) {
                return replica;
            }
        }
        return NONE;
    }

    public int syncsForRead(int client, int replica) {
        if (!isClient(client) || !isReplica(replica)) {
            return counted(OUT_OF_RANGE);
        }
        // There are but two other replicas: their sets, as rising numbers, rise in size too.
        for (int others = 0; others < 1 << REPLICAS; others++) {
            if (!contains(others, replica)
                    && state.isReadAllowed(client, others | only(replica))) {
                return others;
            }
        }
        return NONE;
    }

    public int count(int replica, int origin) {
        if (!isReplica(replica) || !isReplica(origin)) {
            return counted(OUT_OF_RANGE);
        }
        return state.counts[replica][origin];
    }

    public int clock(int replica) {
        if (!isReplica(replica)) {
            return counted(OUT_OF_RANGE);
        }
        return state.clocks[replica];
    }

    public int peek(int replica, int key) {
        if (!isReplica(replica) || !isKey(key)) {
            return counted(OUT_OF_RANGE);
        }
        int value = state.valueAt(replica, key);
        return value == ABSENT_VALUE ? counted(ABSENT) : value;
    }

    public int compare(int a, int b) {
        if (!isReplica(a) || !isReplica(b)) {
            return counted(OUT_OF_RANGE);
        }
        boolean aCoversB = state.covers(only(a), state.counts[b]);
        boolean bCoversA = state.covers(only(b), state.counts[a]);
        if (aCoversB) {
            return bCoversA ? 0 : 1;
        }
        return bCoversA ? 2 : 3;
    }

    public int breaches(int guarantee) {
        if (!isBelow(guarantee, GUARANTEES)) {
            return counted(OUT_OF_RANGE);
        }
        return state.breachCounts[guarantee];
    }

    public int append(int value) {
        if (!isBelow(value, BYTES)) {
            return counted(OUT_OF_RANGE);
        }
        return counted(script.add(value));
    }

    public int clearText() {
        int length = script.length;
        script.length = 0;
        return length;
    }

    public int execute() {
        int position = script.parse();
        if (position != NONE) {
            return SYNTAX_ERROR - position;
        }
        history.prepare(state);
        int notSkipped = 0;
        for (int index = 0; index < script.commands; index++) {
            int result = runCommand(index);
            if (result == OUT_OF_RANGE || result == FULL) {
                history.restorePrepared(state);
                return STOPPED - index;
            }
            if (result != NOT_ALLOWED) {
                notSkipped++;
            }
        }
        history.keepPrepared();
        return notSkipped;
    }

    public int undo() {
        return history.restoreNewest(state) ? history.size : counted(NOTHING_SAVED);
    }

    public int errorCount(int code) {
        if (!isErrorCode(code)) {
            return counted(OUT_OF_RANGE);
        }
        return errors[OUT_OF_RANGE - code];
    }

    public int writes() {
        return state.writeTotal;
    }

    public long digest() {
        long hash = mixAll(DIGEST_START, errors);
        hash = state.mixInto(hash);
        hash = mix(hash, script.length);
        return mix(hash, history.size);
    }

    private int runCommand(int index) {
        int[] numbers = script.numbers[index];
        switch (script.letters[index]) {
            case 'g':
                return state.changeGuarantees(numbers[0], numbers[1]);
            case 'r':
                return state.readKey(numbers[0], numbers[1], numbers[2]);
            case 'w':
                return state.writeKey(numbers[0], numbers[1], numbers[2], numbers[3]);
            case 's':
                return state.synchronize(numbers[0], numbers[1]);
            default:
                return state.clearVectors(numbers[0]);
        }
    }

    private int endUndoable(int result) {
        if (result >= 0) {
            history.keepPrepared();
        }
        return counted(result);
    }

    private int counted(int result) {
        if (isErrorCode(result)) {
            errors[OUT_OF_RANGE - result]++;
        }
        return result;
    }

    private static boolean isErrorCode(int code) {
        return code >= NOTHING_SAVED && code <= OUT_OF_RANGE;
    }

    private static boolean isBelow(int number, int bound) {
        return number >= 0 && number < bound;
    }

    private static boolean isClient(int number) {
        return isBelow(number, CLIENTS);
    }

    private static boolean isReplica(int number) {
        return isBelow(number, REPLICAS);
    }

    private static boolean isKey(int number) {
        return isBelow(number, KEYS);
    }

    private static int only(int replica) {
        return 1 << replica;
    }

    private static boolean contains(int set, int member) {
        return (set >> member & 1) != 0;
    }

    private static long mix(long hash, int value) {
        return 31 * hash + value;
    }

    private static long mixAll(long hash, int[] values) {
        for (int value : values) {
            hash = mix(hash, value);
        }
        return hash;
    }

    /** All that undo brings back: the writes, the replicas, the clients and the breaches. */
    private static final class State {
        int writeTotal = 0;
        final int[] origins = new int[MAX_WRITES];
        final int[] sequences = new int[MAX_WRITES];
        final int[] keys = new int[MAX_WRITES];
        final int[] values = new int[MAX_WRITES];
        final int[] timestamps = new int[MAX_WRITES];
        final int[][] counts = new int[REPLICAS][REPLICAS];
        final int[] clocks = new int[REPLICAS];
        final int[] guaranteeSets = new int[CLIENTS];
        final int[][] readVectors = new int[CLIENTS][REPLICAS];
        final int[][] writeVectors = new int[CLIENTS][REPLICAS];
        final int[] breachCounts = new int[GUARANTEES];

        void copyFrom(State other) {
            writeTotal = other.writeTotal;
            copyRow(other.origins, origins);
            copyRow(other.sequences, sequences);
            copyRow(other.keys, keys);
            copyRow(other.values, values);
            copyRow(other.timestamps, timestamps);
            copyRows(other.counts, counts);
            copyRow(other.clocks, clocks);
            copyRow(other.guaranteeSets, guaranteeSets);
            copyRows(other.readVectors, readVectors);
            copyRows(other.writeVectors, writeVectors);
            copyRow(other.breachCounts, breachCounts);
        }

        int changeGuarantees(int client, int guarantees) {
            if (!isClient(client) || !isBelow(guarantees, GUARANTEE_SETS)) {
                return OUT_OF_RANGE;
            }
            int previous = guaranteeSets[client];
            guaranteeSets[client] = guarantees;
            return previous;
        }

        int clearVectors(int client) {
            if (!isClient(client)) {
                return OUT_OF_RANGE;
            }
            int sum = 0;
            for (int origin = 0; origin < REPLICAS; origin++) {
                sum += readVectors[client][origin] + writeVectors[client][origin];
                readVectors[client][origin] = 0;
                writeVectors[client][origin] = 0;
            }
            return sum;
        }

        int readKey(int client, int replica, int key) {
            if (!isClient(client) || !isReplica(replica) || !isKey(key)) {
                return OUT_OF_RANGE;
            }
            int unmet = unmetByRead(client, only(replica));
            if ((unmet & guaranteeSets[client]) != 0) {
                return NOT_ALLOWED;
            }
            countBreaches(unmet);
            merge(counts[replica], readVectors[client]);
            return valueAt(replica, key);
        }

        int writeKey(int client, int replica, int key, int value) {
            if (!isClient(client) || !isReplica(replica) || !isKey(key)
                    || !isBelow(value, VALUES)) {
                return OUT_OF_RANGE;
            }
            int unmet = unmetByWrite(client, replica);
            if ((unmet & guaranteeSets[client]) != 0) {
                return NOT_ALLOWED;
            }
            if (writeTotal >= MAX_WRITES) {
                return FULL;
            }
            countBreaches(unmet);
            clocks[replica]++;
            counts[replica][replica]++;
            writeVectors[client][replica] = counts[replica][replica];
            origins[writeTotal] = replica;
            sequences[writeTotal] = counts[replica][replica];
            keys[writeTotal] = key;
            values[writeTotal] = value;
            timestamps[writeTotal] = clocks[replica];
            writeTotal++;
            return counts[replica][replica];
        }

        int synchronize(int from, int to) {
            if (!isReplica(from) || !isReplica(to) || from == to) {
                return OUT_OF_RANGE;
            }
            int learned = 0;
            for (int write = 0; write < writeTotal; write++) {
                if (knows(from, write) && !knows(to, write)) {
                    learned++;
                    clocks[to] = Math.max(clocks[to], timestamps[write]);
                }
            }
            merge(counts[from], counts[to]);
            return learned;
        }

        boolean isReadAllowed(int client, int replicas) {
            return (unmetByRead(client, replicas) & guaranteeSets[client]) == 0;
        }

        boolean isWriteAllowed(int client, int replica) {
            return (unmetByWrite(client, replica) & guaranteeSets[client]) == 0;
        }

        /** Takes a set of replicas, so that it also tells what a read would break after syncs. */
        int unmetByRead(int client, int replicas) {
            int unmet = 0;
            if (!covers(replicas, writeVectors[client])) {
                unmet |= READ_YOUR_WRITES;
            }
            if (!covers(replicas, readVectors[client])) {
                unmet |= MONOTONIC_READS;
            }
            return unmet;
        }

        int unmetByWrite(int client, int replica) {
            int unmet = 0;
            if (!covers(only(replica), readVectors[client])) {
                unmet |= WRITES_FOLLOW_READS;
            }
            if (!covers(only(replica), writeVectors[client])) {
                unmet |= MONOTONIC_WRITES;
            }
            return unmet;
        }

        /** Tells whether the merge of the vectors of a set of replicas covers a vector. */
        boolean covers(int replicas, int[] vector) {
            for (int origin = 0; origin < REPLICAS; origin++) {
                if (vector[origin] > greatestCount(replicas, origin)) {
                    return false;
                }
            }
            return true;
        }

        private int greatestCount(int replicas, int origin) {
            int greatest = 0;
            for (int replica = 0; replica < REPLICAS; replica++) {
                if (contains(replicas, replica)) {
                    greatest = Math.max(greatest, counts[replica][origin]);
                }
            }
            return greatest;
        }

        int valueAt(int replica, int key) {
            int latest = NONE;
            for (int write = 0; write < writeTotal; write++) {
                if (keys[write] == key && knows(replica, write)
                        && (latest == NONE || isLater(write, latest))) {
                    latest = write;
                }
            }
            return latest == NONE ? ABSENT_VALUE : values[latest];
        }

        private boolean knows(int replica, int write) {
            return sequences[write] <= counts[replica][origins[write]];
        }

        private boolean isLater(int write, int other) {
            if (timestamps[write] != timestamps[other]) {
                return timestamps[write] > timestamps[other];
            }
            return origins[write] > origins[other];
        }

        private void countBreaches(int unmet) {
            for (int guarantee = 0; guarantee < GUARANTEES; guarantee++) {
                if (contains(unmet, guarantee)) {
                    breachCounts[guarantee]++;
                }
            }
        }

        long mixInto(long hash) {
            hash = mix(hash, writeTotal);
            for (int replica = 0; replica < REPLICAS; replica++) {
                hash = mixAll(hash, counts[replica]);
                hash = mix(hash, clocks[replica]);
                for (int key = 0; key < KEYS; key++) {
                    hash = mix(hash, valueAt(replica, key));
                }
            }
            for (int client = 0; client < CLIENTS; client++) {
                hash = mix(hash, guaranteeSets[client]);
                hash = mixAll(hash, readVectors[client]);
                hash = mixAll(hash, writeVectors[client]);
            }
            return mixAll(hash, breachCounts);
        }

        private static void merge(int[] source, int[] target) {
            for (int origin = 0; origin < REPLICAS; origin++) {
                target[origin] = Math.max(target[origin], source[origin]);
            }
        }

        private static void copyRow(int[] source, int[] target) {
            System.arraycopy(source, 0, target, 0, Math.min(source.length, target.length));
        }

        private static void copyRows(int[][] source, int[][] target) {
            for (int row = 0; row < source.length && row < target.length; row++) {
                copyRow(source[row], target[row]);
            }
        }
    }

    /**
     * The saved states, in a ring. It has one slot more than states are kept: in the free slot the
     * state from before a call waits until the call has turned out well.
     */
    private static final class History {
        private static final int SLOTS = MAX_SAVED + 1;

        private final State[] slots = new State[SLOTS];
        private int free = 0;
        int size = 0;

        History() {
            for (int slot = 0; slot < SLOTS; slot++) {
                slots[slot] = new State();
            }
        }

        void prepare(State state) {
            slots[free].copyFrom(state);
        }

        void restorePrepared(State state) {
            state.copyFrom(slots[free]);
        }

        void keepPrepared() {
            free = (free + 1) % SLOTS;
            size = Math.min(size + 1, MAX_SAVED);
        }

        boolean restoreNewest(State state) {
            if (size == 0) {
                return false;
            }
            free = (free + SLOTS - 1) % SLOTS;
            size--;
            state.copyFrom(slots[free]);
            return true;
        }
    }

    /** The command text, and the commands that the last parse found in it. */
    private static final class Script {
        private final int[] text = new int[MAX_TEXT];
        int length = 0;

        final int[] letters = new int[MAX_COMMANDS];
        final int[][] numbers = new int[MAX_COMMANDS][MAX_NUMBERS];
        int commands = 0;

        private boolean inCommand = false;
        private int numbersBegun = 0;
        private int digits = 0;

        int add(int value) {
            if (length >= MAX_TEXT) {
                return FULL;
            }
            text[length] = value;
            length++;
            return length;
        }

        /** Answers the syntax error position, or NONE if the whole text is well formed. */
        int parse() {
            commands = 0;
            inCommand = false;
            for (int position = 0; position < length; position++) {
                if (!accepts(text[position])) {
                    return position;
                }
            }
            return inCommand || commands == 0 ? length : NONE;
        }

        private boolean accepts(int sign) {
            if (sign == ' ') {
                digits = 0;
                return true;
            }
            if (!inCommand) {
                return beginsCommand(sign);
            }
            if (sign == ';') {
                return endsCommand();
            }
            return sign >= '0' && sign <= '9' && takesDigit(sign - '0');
        }

        private boolean beginsCommand(int sign) {
            if (numbersAfter(sign) == 0 || commands >= MAX_COMMANDS) {
                return false;
            }
            letters[commands] = sign;
            inCommand = true;
            numbersBegun = 0;
            digits = 0;
            return true;
        }

        private boolean endsCommand() {
            if (numbersBegun < numbersAfter(letters[commands])) {
                return false;
            }
            inCommand = false;
            commands++;
            return true;
        }

        private boolean takesDigit(int digit) {
            if (digits >= MAX_DIGITS) {
                return false;
            }
            int[] row = numbers[commands];
            if (digits == 0) {
                if (numbersBegun >= numbersAfter(letters[commands])) {
                    return false;
                }
                row[numbersBegun] = 0;
                numbersBegun++;
            }
            digits++;
            row[numbersBegun - 1] = 10 * row[numbersBegun - 1] + digit;
            return true;
        }

        private static int numbersAfter(int letter) {
            switch (letter) {
                case 'f':
                    return 1;
                case 'g':
                case 's':
                    return 2;
                case 'r':
                    return 3;
                case 'w':
                    return 4;
                default:
                    return 0;
            }
        }
    }
}
