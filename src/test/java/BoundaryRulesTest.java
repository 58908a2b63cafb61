import java.util.function.IntSupplier;

/** The boundary cases of the rules that all calls share, a sentence of the description each. */
public final class BoundaryRulesTest extends Boundary {
    /** What client 0 of wroteAtZeroAndReadAtOne would break at each replica. */
    private static final int[] BROKEN_BY_READ = {2, 1, 3};
    private static final int[] BROKEN_BY_WRITE = {4, 8, 12};

    public static void main(String[] args) {
        new BoundaryRulesTest().runAtEveryAge();
    }

    @Override
    void sentences() {
        lastOfAllCalls();
        replicas();
        keys();
        values();
        firstSequenceNumber();
        atMostSixtyWrites();
        countOfKnownWrites();
        noGaps();
        covers();
        merges();
        clockAtFirst();
        clockOfAcceptedWrite();
        clockOfLearnedWrites();
        laterByTimestamp();
        laterByOrigin();
        latestKnownWrite();
        absentKey();
        learnsWhatIsNew();
        senderStays();
        clients();
        initialClients();
        bitsOfGuarantees();
        readSatisfies();
        writeSatisfies();
        concernsReadsOrWrites();
        allowedIfEachRequested();
        readMerges();
        writeSetsCount();
        breachOfEach();
        noBreachIfRefused();
        determinedBefore();
        savesEvenIfNothingChanges();
        atMostFourStates();
        savedStateContains();
        errorsChangeNothing();
        errorsInsideCommands();
    }

    private void lastOfAllCalls() {
        opening("An object is used for at most 512 calls after it has been made");
        Store errors = store();
        int wrong = errors.callsLeft() - 1;
        for (int i = 0; i < wrong; i++) {
            errors.clock(3);
        }
        Check.due("errorCount(-2) as the last call", wrong, errors.errorCount(-2));

        Store breaches = store();
        breaches.write(0, 0, 0, 1);
        int reads = breaches.callsLeft() - 1;
        for (int i = 0; i < reads; i++) {
            breaches.read(0, 1, 0);
        }
        Check.due("breaches(0) as the last call", reads, breaches.breaches(0));

        Store saved = store();
        while (saved.callsLeft() > 4) {
            saved.setGuarantees(0, saved.callsLeft() % 16);
        }
        for (int left = 3; left >= 0; left--) {
            Check.due("undo() as one of the last calls", left, saved.undo());
        }
        Check.due("calls left", 0, saved.callsLeft());

        Store full = store();
        Check.fill(full);
        while (full.callsLeft() > 1) {
            full.write(0, 0, 0, 1);
        }
        Check.due("write to a full store as the last call", -4, full.write(0, 0, 0, 1));

        Store text = store();
        Check.type(text, "f3;");
        while (text.callsLeft() > 1) {
            text.execute();
        }
        Check.due("execute() as the last call", 1, text.execute());
    }

    /** The greatest and the least number of a range must be taken, the ones beside them refused. */
    private void range(String name, int count, Call call) {
        Store store = store();
        store.write(1, 0, 0, 5);
        store.write(1, 0, 3, 5);
        store.sync(0, 1);
        store.sync(0, 2);
        for (int number = 0; number < count; number++) {
            Check.holds(name + " takes " + number, call.of(store, new int[] {number}) >= 0);
        }
        for (int bad : Check.outside(count)) {
            Check.refused(name + " with " + bad, store, -2, () -> call.of(store, new int[] {bad}));
        }
    }

    private void replicas() {
        rule("There are 3 replicas, numbered 0 to 2,", 4, 5, 6, 7, 8, 9, 10, 13, 14, 15, 16, 17);
        range("readCount's origin", 3, (store, a) -> store.readCount(0, a[0]));
        range("writeCount's origin", 3, (store, a) -> store.writeCount(0, a[0]));
        range("read's replica", 3, (store, a) -> store.read(0, a[0], 0));
        range("write's replica", 3, (store, a) -> store.write(0, a[0], 0, 0));
        range("sync's from", 3, (store, a) -> store.sync(a[0], a[0] == 0 ? 1 : 0));
        range("sync's to", 3, (store, a) -> store.sync(a[0] == 0 ? 1 : 0, a[0]));
        range("readBreaches' replica", 3, (store, a) -> store.readBreaches(0, a[0]));
        range("writeBreaches' replica", 3, (store, a) -> store.writeBreaches(0, a[0]));
        range("syncsForRead's replica", 3, (store, a) -> store.syncsForRead(0, a[0]));
        range("count's replica", 3, (store, a) -> store.count(a[0], 0));
        range("count's origin", 3, (store, a) -> store.count(0, a[0]));
        range("clock's replica", 3, (store, a) -> store.clock(a[0]));
        range("peek's replica", 3, (store, a) -> store.peek(a[0], 0));
        range("compare's a", 3, (store, a) -> store.compare(a[0], 0));
        range("compare's b", 3, (store, a) -> store.compare(0, a[0]));
    }

    private void keys() {
        rule("and 4 keys, numbered 0 to 3.", 6, 7, 16);
        range("read's key", 4, (store, a) -> store.read(0, 0, a[0]));
        range("write's key", 4, (store, a) -> store.write(0, 0, a[0], 0));
        Store store = store();
        for (int key = 0; key < 4; key++) {
            store.write(0, 0, key, 90 + key);
        }
        for (int key = 0; key < 4; key++) {
            Check.due("peek(0, " + key + ")", 90 + key, store.peek(0, key));
        }
        for (int bad : Check.outside(4)) {
            Check.refused("peek(0, " + bad + ")", store, -2, () -> store.peek(0, bad));
        }
    }

    private void values() {
        rule("A value is a number from 0 to 99.", 7, 16);
        for (int least = 0; least < 100; least += 50) {
            Store store = store();
            for (int value = least; value < least + 50; value++) {
                Check.due("write of " + value, value - least + 1, store.write(0, 0, 1, value));
                Check.due("peek after write of " + value, value, store.peek(0, 1));
            }
        }
        Store store = store();
        for (int bad : Check.outside(100)) {
            Check.refused("write of " + bad, store, -2, () -> store.write(0, 0, 1, bad));
        }
    }

    private void firstSequenceNumber() {
        rule("(1 for the first write that the origin accepted).", 7);
        Store store = store();
        for (int origin = 0; origin < 3; origin++) {
            Check.due("the first write at " + origin, 1, store.write(0, origin, 0, 1));
            store.sync(origin, (origin + 1) % 3);
        }
        for (int origin = 0; origin < 3; origin++) {
            Check.due("the second write at " + origin, 2, store.write(0, origin, 0, 1));
        }
        store.undo();
        Check.due("the second write at 2, after undo() of another", 2, store.write(1, 2, 0, 1));
    }

    private void atMostSixtyWrites() {
        rule("The store keeps at most 60 writes in total.", 7, 24);
        int[][] shares = {{60, 0, 0}, {0, 60, 0}, {0, 0, 60}, {59, 0, 1}, {20, 20, 20}, {1, 1, 58}};
        for (int[] share : shares) {
            Store store = store();
            for (int origin = 0; origin < 3; origin++) {
                for (int i = 1; i <= share[origin]; i++) {
                    Check.due("write " + i + " at " + origin, i, store.write(2, origin, 0, 1));
                }
            }
            for (int origin = 0; origin < 3; origin++) {
                int at = origin;
                Check.refused("the 61st write, at " + at, store, -4, () -> store.write(2, at, 0, 1));
            }
            Check.due("writes()", 60, store.writes());
            store.sync(0, 1);
            store.sync(1, 2);
            store.sync(2, 0);
            for (int origin = 0; origin < 3; origin++) {
                Check.due("count(0, " + origin + ") after syncs", share[origin], store.count(0, origin));
                Check.due("count(2, " + origin + ") after syncs", share[origin], store.count(2, origin));
            }
        }
    }

    private void countOfKnownWrites() {
        rule("count o is the number of writes with origin o that the replica knows.", 14);
        Store store = store();
        for (int replica = 0; replica < 3; replica++) {
            for (int i = 0; i <= replica; i++) {
                store.write(0, replica, 0, 1);
            }
        }
        int[][] before = {{1, 0, 0}, {0, 2, 0}, {0, 0, 3}};
        counts("before syncs", store, before);
        store.sync(2, 0);
        store.sync(0, 1);
        store.write(0, 2, 0, 1);
        int[][] after = {{1, 0, 3}, {1, 2, 3}, {0, 0, 4}};
        counts("after syncs", store, after);
        store.undo();
        store.undo();
        int[][] undone = {{1, 0, 3}, {0, 2, 0}, {0, 0, 3}};
        counts("after undo()", store, undone);
    }

    private static void counts(String when, Store store, int[][] wanted) {
        for (int replica = 0; replica < 3; replica++) {
            for (int origin = 0; origin < 3; origin++) {
                Check.due("count(" + replica + ", " + origin + ") " + when, wanted[replica][origin],
                        store.count(replica, origin));
            }
        }
    }

    private void noGaps() {
        rule("A replica always knows the first writes of each origin, without gaps.", 8, 14, 16);
        Store store = store();
        for (int key = 0; key < 4; key++) {
            store.write(0, 0, key, 10 + key);
            if (key == 1) {
                store.sync(0, 1);
            }
        }
        Check.due("sync(1, 2) from one that knows two", 2, store.sync(1, 2));
        Check.due("count(2, 0)", 2, store.count(2, 0));
        Check.due("peek(2, 0)", 10, store.peek(2, 0));
        Check.due("peek(2, 1)", 11, store.peek(2, 1));
        Check.refused("peek(2, 2)", store, -5, () -> store.peek(2, 2));
        Check.due("sync(0, 2) of the rest", 2, store.sync(0, 2));
        Check.due("sync(1, 2), which takes nothing away", 0, store.sync(1, 2));
        Check.due("count(2, 0)", 4, store.count(2, 0));
        Check.due("peek(2, 3)", 13, store.peek(2, 3));
    }

    private void covers() {
        rule("Vector A covers vector B if no count of B is greater than the same count of A.", 9, 10, 17);
        for (int origin = 0; origin < 3; origin++) {
            int at = (origin + 1) % 3;
            Store store = store();
            for (int replica = 0; replica < 3; replica++) {
                store.write(2, replica, 0, 1);
            }
            store.sync(origin, at);
            store.read(0, at, 0);
            Check.due("readBreaches where all counts are equal", 0, store.readBreaches(0, at));
            Check.due("writeBreaches where all counts are equal", 0, store.writeBreaches(0, at));
            store.write(2, at, 0, 1);
            Check.due("readBreaches where one count is less than the replica's", 0, store.readBreaches(0, at));
            store.write(1, origin, 0, 1);
            Check.due("readBreaches where one count is greater by one", 1, store.readBreaches(1, at));
            Check.due("writeBreaches where one count is greater by one", 8, store.writeBreaches(1, at));
            store.read(1, origin, 0);
            Check.due("readBreaches where the read count is greater too", 3, store.readBreaches(1, at));
            Check.due("writeBreaches where the read count is greater too", 12, store.writeBreaches(1, at));
            store.sync(origin, at);
            Check.due("readBreaches where they are equal again", 0, store.readBreaches(1, at));
            Check.due("writeBreaches where they are equal again", 0, store.writeBreaches(1, at));
        }
    }

    private void merges() {
        rule("The merge of two vectors takes the greater one of each two counts.", 6, 8);
        Store store = store();
        store.write(0, 0, 0, 1);
        store.write(0, 1, 0, 1);
        store.write(0, 1, 0, 1);
        store.write(0, 2, 0, 1);
        store.sync(0, 1);
        store.write(0, 0, 0, 1);
        store.sync(2, 0);
        Check.due("sync(0, 1), {2, 0, 1} to {1, 2, 0}", 2, store.sync(0, 1));
        Check.due("count(1, 0), the sender's is greater", 2, store.count(1, 0));
        Check.due("count(1, 1), the learner's is greater", 2, store.count(1, 1));
        Check.due("count(1, 2), the sender's is greater", 1, store.count(1, 2));
        store.read(3, 0, 0);
        store.read(3, 1, 0);
        store.read(3, 2, 0);
        Check.due("readCount(3, 0), equal ones", 2, store.readCount(3, 0));
        Check.due("readCount(3, 1), greater at the second", 2, store.readCount(3, 1));
        Check.due("readCount(3, 2), equal ones", 1, store.readCount(3, 2));
    }

    private void clockAtFirst() {
        rule("Each replica has a clock, initially 0.", 15);
        Store store = store();
        for (int replica = 0; replica < 3; replica++) {
            Check.due("clock(" + replica + ")", 0, store.clock(replica));
        }
        store.sync(0, 1);
        store.read(0, 1, 0);
        Check.due("clock(1) after a sync of nothing and a read", 0, store.clock(1));
    }

    private void clockOfAcceptedWrite() {
        rule("When a replica accepts a write, its clock increases by 1 and the write gets the clock as its timestamp.",
                7, 15);
        Store store = store();
        store.write(0, 0, 0, 1);
        Check.due("clock(0) after the first write", 1, store.clock(0));
        store.write(0, 0, 4, 1);
        store.write(0, 0, 0, 100);
        Check.due("clock(0) after refused writes", 1, store.clock(0));
        store.write(1, 0, 1, 2);
        Check.due("clock(0) after the second write", 2, store.clock(0));
        store.sync(0, 1);
        Check.due("clock(1), which learned timestamps 1 and 2", 2, store.clock(1));
        Check.due("clock(2), which took no part", 0, store.clock(2));
        store.write(1, 1, 1, 3);
        Check.due("clock(1) after a write of its own", 3, store.clock(1));
        store.sync(1, 2);
        Check.due("clock(2), which learned timestamp 3", 3, store.clock(2));
    }

    private void clockOfLearnedWrites() {
        rule("its clock becomes the greatest of its own clock and the timestamps of the writes that it learned.",
                8, 15);
        for (int own = 0; own <= 4; own++) {
            Store store = store();
            for (int i = 0; i < own; i++) {
                store.write(0, 2, 0, 1);
            }
            store.write(0, 0, 0, 1);
            store.write(0, 0, 0, 1);
            store.sync(0, 2);
            Check.due("clock(2) of " + own + " after learning timestamp 2", Math.max(own, 2), store.clock(2));
            Check.due("clock(0), the sender's", 2, store.clock(0));
            store.sync(0, 2);
            Check.due("clock(2) after learning nothing", Math.max(own, 2), store.clock(2));
        }
        Store chain = store();
        for (int i = 0; i < 5; i++) {
            chain.write(0, 0, 0, 1);
        }
        chain.write(0, 1, 1, 1);
        chain.sync(0, 2);
        chain.sync(1, 2);
        Check.due("clock(2), which learned 1 behind 5", 5, chain.clock(2));
        chain.sync(2, 1);
        Check.due("clock(1), which learned 5 writes of another", 5, chain.clock(1));
        Store equal = store();
        equal.write(0, 0, 0, 1);
        equal.write(0, 1, 0, 1);
        equal.sync(0, 1);
        equal.sync(1, 2);
        Check.due("clock(1), which learned its own timestamp", 1, equal.clock(1));
        Check.due("clock(2), which learned two writes of timestamp 1", 1, equal.clock(2));
    }

    private void laterByTimestamp() {
        rule("Of two writes, the later one is the one with the greater timestamp;", 16);
        for (int low = 0; low < 3; low++) {
            for (int high = low + 1; high < 3; high++) {
                for (int ahead = 1; ahead <= 12; ahead++) {
                    Store store = store();
                    for (int i = 0; i < ahead; i++) {
                        store.write(0, low, 3, 50);
                    }
                    store.write(0, low, 0, 1);
                    for (int i = 1; i < ahead; i++) {
                        store.write(0, high, 3, 50);
                    }
                    store.write(0, high, 0, 2);
                    store.sync(low, high);
                    store.sync(high, low);
                    Check.due("peek at " + high + ", timestamp " + (ahead + 1), 1, store.peek(high, 0));
                    Check.due("peek at " + low + ", timestamp " + (ahead + 1), 1, store.peek(low, 0));
                }
            }
        }
    }

    private void laterByOrigin() {
        rule("if the timestamps are equal, the one with the greater origin is later.", 16);
        for (int low = 0; low < 3; low++) {
            for (int high = low + 1; high < 3; high++) {
                for (int stamp = 1; stamp <= 3; stamp++) {
                    Store store = store();
                    int third = 3 - low - high;
                    for (int i = 1; i < stamp; i++) {
                        store.write(0, low, 3, 50);
                        store.write(0, high, 3, 50);
                    }
                    int first = stamp % 2 == 0 ? low : high;
                    int second = low + high - first;
                    store.write(0, first, 0, first);
                    store.write(0, second, 0, second);
                    store.sync(first, third);
                    Check.due("peek at " + third + " of the one it knows", first, store.peek(third, 0));
                    store.sync(second, third);
                    store.sync(third, low);
                    store.sync(third, high);
                    for (int replica = 0; replica < 3; replica++) {
                        Check.due("peek at " + replica + ", timestamps " + stamp, high, store.peek(replica, 0));
                    }
                }
            }
        }
    }

    private void latestKnownWrite() {
        rule("The value of a key at a replica is the value of the latest write of that key among the writes that the "
                + "replica knows.", 6, 16);
        Store store = store();
        store.write(0, 0, 0, 10);
        store.sync(0, 1);
        store.write(0, 0, 0, 20);
        store.write(0, 0, 1, 30);
        Check.due("peek(0, 0), not the latest write of all", 20, store.peek(0, 0));
        Check.due("peek(1, 0), not the one it does not know", 10, store.peek(1, 0));
        store.write(0, 1, 0, 5);
        Check.due("peek(1, 0), a lesser value written later", 5, store.peek(1, 0));
        store.sync(0, 1);
        Check.due("peek(1, 0), equal timestamps, greater origin", 5, store.peek(1, 0));
        Check.due("read(3, 1, 0)", 5, store.read(3, 1, 0));
        Check.due("read(3, 0, 0)", 20, store.read(3, 0, 0));
    }

    private void absentKey() {
        rule("If the replica knows no write of the key, the key is absent there.", 6, 16);
        Store store = store();
        store.write(0, 0, 0, 0);
        for (int key = 1; key < 4; key++) {
            int k = key;
            Check.refused("peek(0, " + k + ")", store, -5, () -> store.peek(0, k));
            Check.due("read(0, 0, " + k + ")", 100, store.read(0, 0, k));
        }
        Check.due("peek(0, 0)", 0, store.peek(0, 0));
        Check.refused("peek(2, 0) at another replica", store, -5, () -> store.peek(2, 0));
        store.sync(0, 2);
        Check.due("peek(2, 0) after sync", 0, store.peek(2, 0));
    }

    private void learnsWhatIsNew() {
        rule("b learns all writes that a knows and b does not know.", 8);
        Store store = store();
        Check.due("sync(0, 1) of nothing", 0, store.sync(0, 1));
        store.write(0, 0, 0, 1);
        store.write(0, 2, 1, 2);
        store.sync(2, 0);
        store.sync(2, 1);
        Check.due("sync(0, 1), which knows one of two already", 1, store.sync(0, 1));
        Check.due("sync(0, 1) again", 0, store.sync(0, 1));
        Check.due("sync(1, 0) back", 0, store.sync(1, 0));
        Check.due("sync(1, 2), a write that came by way of another", 1, store.sync(1, 2));
        Check.due("compare(0, 2)", 0, store.compare(0, 2));
    }

    private void senderStays() {
        rule("The version vector of b becomes the merge of both vectors; replica a stays as it is.", 8);
        Store store = store();
        store.write(0, 0, 0, 1);
        store.write(0, 1, 0, 2);
        store.write(0, 1, 1, 3);
        store.sync(0, 1);
        Check.due("count(0, 0)", 1, store.count(0, 0));
        Check.due("count(0, 1)", 0, store.count(0, 1));
        Check.due("clock(0)", 1, store.clock(0));
        Check.due("peek(0, 0)", 1, store.peek(0, 0));
        Check.refused("peek(0, 1)", store, -5, () -> store.peek(0, 1));
        Check.due("count(1, 0)", 1, store.count(1, 0));
        Check.due("count(1, 1)", 2, store.count(1, 1));
        Check.due("compare(1, 0)", 1, store.compare(1, 0));
    }

    private void clients() {
        rule("There are 4 clients, numbered 0 to 3.", 2, 3, 4, 5, 6, 7, 9, 10, 11, 12, 13);
        range("setGuarantees' client", 4, (store, a) -> store.setGuarantees(a[0], 0));
        range("forget's client", 4, (store, a) -> store.forget(a[0]));
        range("readCount's client", 4, (store, a) -> store.readCount(a[0], 0));
        range("writeCount's client", 4, (store, a) -> store.writeCount(a[0], 0));
        range("read's client", 4, (store, a) -> store.read(a[0], 0, 0));
        range("write's client", 4, (store, a) -> store.write(a[0], 0, 0, 0));
        range("readBreaches' client", 4, (store, a) -> store.readBreaches(a[0], 0));
        range("writeBreaches' client", 4, (store, a) -> store.writeBreaches(a[0], 0));
        range("readableReplica's client", 4, (store, a) -> store.readableReplica(a[0]));
        range("writableReplica's client", 4, (store, a) -> store.writableReplica(a[0]));
        range("syncsForRead's client", 4, (store, a) -> store.syncsForRead(a[0], 0));
    }

    private void initialClients() {
        rule("A client has a read vector and a write vector (all counts initially 0) and a set of requested guarantees "
                + "(initially empty).", 1, 2, 4, 5);
        Store store = store();
        for (int client = 0; client < 4; client++) {
            for (int origin = 0; origin < 3; origin++) {
                Check.due("readCount(" + client + ", " + origin + ")", 0, store.readCount(client, origin));
                Check.due("writeCount(" + client + ", " + origin + ")", 0, store.writeCount(client, origin));
            }
        }
        store.write(0, 0, 0, 1);
        for (int client = 0; client < 4; client++) {
            Check.due("write with nothing requested", client + 2, store.write(client, 0, 0, 1));
            Check.due("read with nothing requested", 100, store.read(client, 1, 0));
            Check.due("setGuarantees(" + client + ", 15)", 0, store.setGuarantees(client, 15));
        }
    }

    private void bitsOfGuarantees() {
        rule("read your writes (1), monotonic reads (2), writes follow reads (4), monotonic writes (8).", 2, 6, 7);
        for (int bit = 0; bit < 4; bit++) {
            Store wrote = store();
            wrote.write(0, 0, 0, 1);
            wrote.setGuarantees(0, 1 << bit);
            Check.due("read elsewhere with bit " + bit + " after a write", bit == 0 ? -3 : 100, wrote.read(0, 1, 0));
            Check.due("write elsewhere with bit " + bit + " after a write", bit == 3 ? -3 : 1, wrote.write(0, 2, 0, 1));
            Store read = store();
            read.write(1, 0, 0, 1);
            read.read(0, 0, 0);
            read.setGuarantees(0, 1 << bit);
            Check.due("read elsewhere with bit " + bit + " after a read", bit == 1 ? -3 : 100, read.read(0, 1, 0));
            Check.due("write elsewhere with bit " + bit + " after a read", bit == 2 ? -3 : 1, read.write(0, 2, 0, 1));
        }
    }

    /** Client 0 has written two writes at the origin, of which the replica knows as many as told. */
    private Store writtenAndKnown(int origin, int replica, int known) {
        Store store = store();
        for (int i = 1; i <= 2; i++) {
            store.write(0, origin, 0, i);
            if (i == known) {
                store.sync(origin, replica);
            }
        }
        return store;
    }

    private void readSatisfies() {
        rule("A read of a client at a replica satisfies read your writes if the replica's vector covers the client's "
                + "write vector, and it satisfies monotonic reads if the replica's vector covers the client's read "
                + "vector.", 6, 9);
        for (int origin = 0; origin < 3; origin++) {
            int at = (origin + 1) % 3;
            for (int known = 0; known <= 2; known++) {
                Store wrote = writtenAndKnown(origin, at, known);
                Check.due("readBreaches with " + known + " of 2 known", known == 2 ? 0 : 1, wrote.readBreaches(0, at));
                wrote.read(1, origin, 0);
                Check.due("readBreaches of a reader", known == 2 ? 0 : 2, wrote.readBreaches(1, at));
                wrote.setGuarantees(0, 1);
                wrote.setGuarantees(1, 2);
                Check.due("read of the writer", known == 2 ? 2 : -3, wrote.read(0, at, 0));
                Check.due("read of the reader", known == 2 ? 2 : -3, wrote.read(1, at, 0));
            }
        }
    }

    private void writeSatisfies() {
        rule("A write of a client at a replica satisfies writes follow reads if the replica's vector covers the "
                + "client's read vector, and it satisfies monotonic writes if the replica's vector covers the client's "
                + "write vector.", 7, 10);
        for (int origin = 0; origin < 3; origin++) {
            int at = (origin + 1) % 3;
            for (int known = 0; known <= 2; known++) {
                Store wrote = writtenAndKnown(origin, at, known);
                Check.due("writeBreaches with " + known + " of 2 known", known == 2 ? 0 : 8,
                        wrote.writeBreaches(0, at));
                wrote.read(1, origin, 0);
                Check.due("writeBreaches of a reader", known == 2 ? 0 : 4, wrote.writeBreaches(1, at));
                wrote.setGuarantees(0, 8);
                wrote.setGuarantees(1, 4);
                Check.due("write of the writer", known == 2 ? 1 : -3, wrote.write(0, at, 0, 9));
                Check.due("write of the reader", known == 2 ? 2 : -3, wrote.write(1, at, 0, 9));
            }
        }
    }

    /** Client 0 wrote at replica 0 and read at replica 1. */
    private Store wroteAtZeroAndReadAtOne() {
        Store store = store();
        store.write(1, 1, 3, 1);
        store.read(0, 1, 3);
        store.write(0, 0, 3, 2);
        return store;
    }

    private void concernsReadsOrWrites() {
        rule("The guarantees that concern reads are the first two; those that concern writes are the last two.",
                6, 7, 18);
        Store reader = wroteAtZeroAndReadAtOne();
        reader.setGuarantees(0, 12);
        Check.due("read(0, 2, 0) with both that concern writes", 100, reader.read(0, 2, 0));
        Check.due("breaches(0) by a read", 1, reader.breaches(0));
        Check.due("breaches(1) by a read", 1, reader.breaches(1));
        Check.due("breaches(2), which no read breaks", 1, reader.breaches(2));
        Check.due("breaches(3), which no read breaks", 0, reader.breaches(3));
        Store writer = wroteAtZeroAndReadAtOne();
        writer.setGuarantees(0, 3);
        Check.due("write(0, 2, 0, 1) with both that concern reads", 1, writer.write(0, 2, 0, 1));
        Check.due("breaches(0), which no write breaks", 0, writer.breaches(0));
        Check.due("breaches(1), which no write breaks", 0, writer.breaches(1));
        Check.due("breaches(2) by a write", 2, writer.breaches(2));
        Check.due("breaches(3) by a write", 1, writer.breaches(3));
    }

    private void allowedIfEachRequested() {
        rule("An operation is allowed if it satisfies each requested guarantee that concerns it.", 6, 7, 11, 12, 13);
        for (int set = 0; set < 16; set++) {
            for (int replica = 0; replica < 3; replica++) {
                int at = replica;
                boolean mayRead = (BROKEN_BY_READ[at] & set) == 0;
                Store reading = wroteAtZeroAndReadAtOne();
                reading.setGuarantees(0, set);
                Check.holds("syncsForRead(0, " + at + ") with " + set + " is 0 if the read is allowed",
                        (reading.syncsForRead(0, at) == 0) == mayRead);
                allowedOrNot("read(0, " + at + ", 0) with " + set, reading, mayRead, 100, () -> reading.read(0, at, 0));
                boolean mayWrite = (BROKEN_BY_WRITE[at] & set) == 0;
                Store writing = wroteAtZeroAndReadAtOne();
                writing.setGuarantees(0, set);
                allowedOrNot("write(0, " + at + ", 0, 5) with " + set, writing, mayWrite, at == 2 ? 1 : 2,
                        () -> writing.write(0, at, 0, 5));
            }
            Store store = wroteAtZeroAndReadAtOne();
            store.setGuarantees(0, set);
            Check.due("readableReplica(0) with " + set, lowestWithout(BROKEN_BY_READ, set), store.readableReplica(0));
            Check.due("writableReplica(0) with " + set, lowestWithout(BROKEN_BY_WRITE, set), store.writableReplica(0));
        }
    }

    private static void allowedOrNot(String what, Store store, boolean allowed, int want, IntSupplier call) {
        if (allowed) {
            Check.undoable(what, store, want, call);
        } else {
            Check.refused(what, store, -3, call);
        }
    }

    private static int lowestWithout(int[] broken, int requested) {
        for (int replica = 0; replica < 3; replica++) {
            if ((broken[replica] & requested) == 0) {
                return replica;
            }
        }
        return -1;
    }

    private void readMerges() {
        rule("A successful read merges the replica's vector into the client's read vector.", 4, 6);
        Store store = wroteAtZeroAndReadAtOne();
        store.read(0, 0, 3);
        Check.due("readCount(0, 0) after a read at 0", 1, store.readCount(0, 0));
        Check.due("readCount(0, 1), the greater one stays", 1, store.readCount(0, 1));
        Check.due("writeCount(0, 0)", 1, store.writeCount(0, 0));
        store.setGuarantees(0, 2);
        store.write(2, 2, 0, 1);
        Check.refused("read(0, 2, 0)", store, -3, () -> store.read(0, 2, 0));
        Check.due("readCount(0, 2) after a refused read", 0, store.readCount(0, 2));
        Check.due("readCount(1, 0) of another client", 0, store.readCount(1, 0));
        Check.due("count(0, 1), which no read changes", 0, store.count(0, 1));
        store.sync(0, 1);
        store.read(3, 1, 3);
        Check.due("readCount(3, 0), of a write that the replica learned", 1, store.readCount(3, 0));
        Check.due("readCount(3, 1), of a write that the replica accepted", 1, store.readCount(3, 1));
        Check.due("readCount(3, 2), of what it does not know", 0, store.readCount(3, 2));
    }

    private void writeSetsCount() {
        rule("A successful write sets the count of the replica in the client's write vector to the sequence number of "
                + "the new write.", 5, 7);
        Store store = store();
        store.write(1, 0, 0, 1);
        store.write(1, 0, 0, 1);
        store.write(0, 0, 0, 1);
        Check.due("writeCount(0, 0), the third write but its first", 3, store.writeCount(0, 0));
        Check.due("writeCount(1, 0), which stays", 2, store.writeCount(1, 0));
        store.sync(0, 1);
        store.write(0, 1, 0, 1);
        Check.due("writeCount(0, 1)", 1, store.writeCount(0, 1));
        Check.due("writeCount(0, 0), which stays", 3, store.writeCount(0, 0));
        Check.due("readCount(0, 0), which no write changes", 0, store.readCount(0, 0));
        store.write(2, 1, 0, 1);
        Check.due("writeCount(2, 1)", 2, store.writeCount(2, 1));
        Check.due("writeCount(2, 0), of writes that only the replica knows", 0, store.writeCount(2, 0));
        store.setGuarantees(1, 8);
        Check.refused("write(1, 2, 0, 1)", store, -3, () -> store.write(1, 2, 0, 1));
        Check.due("writeCount(1, 2) after a refused write", 0, store.writeCount(1, 2));
    }

    private void breachOfEach() {
        rule("If a successful operation does not satisfy a guarantee that concerns it (and that the client did not "
                + "request), this is a breach of that guarantee;", 6, 7, 18);
        for (int replica = 0; replica < 3; replica++) {
            Store reading = wroteAtZeroAndReadAtOne();
            reading.read(0, replica, 0);
            Store writing = wroteAtZeroAndReadAtOne();
            writing.write(0, replica, 0, 1);
            for (int bit = 0; bit < 4; bit++) {
                // The write at 0, behind the read at 1, was one already.
                int before = bit == 2 ? 1 : 0;
                Check.due("breaches(" + bit + ") after a read at " + replica,
                        before + (BROKEN_BY_READ[replica] >> bit & 1), reading.breaches(bit));
                Check.due("breaches(" + bit + ") after a write at " + replica,
                        before + (BROKEN_BY_WRITE[replica] >> bit & 1), writing.breaches(bit));
            }
        }
    }

    private void noBreachIfRefused() {
        rule("the store counts the breaches of each guarantee.", 6, 7, 18);
        Store store = wroteAtZeroAndReadAtOne();
        store.setGuarantees(0, 1);
        Check.refused("read(0, 2, 0), one of two requested", store, -3, () -> store.read(0, 2, 0));
        Check.due("breaches(1) after a refused read", 0, store.breaches(1));
        store.setGuarantees(0, 4);
        Check.refused("write(0, 2, 0, 1), one of two requested", store, -3, () -> store.write(0, 2, 0, 1));
        Check.due("breaches(3) after a refused write", 0, store.breaches(3));
        store.setGuarantees(0, 0);
        Check.due("read(0, 2, 9)", -2, store.read(0, 2, 9));
        Check.due("breaches(1) after a read out of range", 0, store.breaches(1));
        Store full = store();
        Check.fill(full);
        int before = full.breaches(3);
        Check.refused("write(3, 0, 0, 1) to a full store", full, -4, () -> full.write(3, 0, 0, 1));
        Check.due("breaches(3) after it", before, full.breaches(3));
    }

    private void determinedBefore() {
        rule("Whether an operation satisfies a guarantee is determined before the operation changes any vector.", 6, 7);
        Store store = store();
        store.setGuarantees(0, 15);
        Check.due("the first write of a client that asks for all", 1, store.write(0, 0, 0, 1));
        Check.due("the first read of a client that asks for all", 1, store.read(0, 0, 0));
        Check.due("a second write there", 2, store.write(0, 0, 0, 2));
        Check.due("a second read there", 2, store.read(0, 0, 0));
        store.setGuarantees(0, 0);
        store.read(0, 1, 0);
        store.read(0, 1, 0);
        Check.due("breaches(1) of two reads at an old replica", 2, store.breaches(1));
        store.write(0, 1, 0, 3);
        store.write(0, 1, 0, 4);
        Check.due("breaches(2) of two writes at an old replica", 2, store.breaches(2));
        Check.due("breaches(3) of two writes at an old replica", 2, store.breaches(3));
    }

    private void savesEvenIfNothingChanges() {
        rule("saves the state from before the call, even if the call changes nothing;", 2, 3, 6, 8, 21, 22);
        Store store = store();
        store.setGuarantees(0, 0);
        store.forget(0);
        store.read(0, 0, 0);
        store.sync(0, 1);
        for (int left = 3; left >= 0; left--) {
            Check.due("undo() of what changed nothing", left, store.undo());
        }
        Check.due("execute() of what changes nothing", 4, Check.run(store, "g0 0;f0;r0 0 0;s0 1;"));
        Check.due("undo() of it", 0, store.undo());
        Check.due("undo() of the rest", -6, store.undo());
        store.write(0, 0, 0, 1);
        for (int i = 0; i < 4; i++) {
            store.forget(3);
        }
        for (int left = 3; left >= 0; left--) {
            Check.due("undo() of forget(3)", left, store.undo());
        }
        Check.due("writes(), for the state before the write was dropped", 1, store.writes());
    }

    private void atMostFourStates() {
        rule("at most 4 states are saved, and the oldest is dropped first.", 22);
        for (int calls = 1; calls <= 12; calls++) {
            Store store = store();
            for (int i = 1; i <= calls; i++) {
                store.write(0, 0, 0, i);
            }
            int kept = Math.min(calls, 4);
            for (int i = 1; i <= kept; i++) {
                Check.due("undo() " + i + " after " + calls + " writes", kept - i, store.undo());
                Check.due("writes() after it", calls - i, store.writes());
            }
            Check.refused("undo() of more", store, -6, () -> store.undo());
            Check.due("writes() at the end", calls - kept, store.writes());
        }
    }

    private void savedStateContains() {
        rule("The saved state contains everything except the error counters and the command text.", 22);
        Store store = store();
        store.write(0, 0, 0, 1);
        store.write(1, 1, 1, 2);
        store.read(1, 0, 0);
        store.setGuarantees(2, 5);
        long before = store.digest() - 4;
        store.setGuarantees(2, 9);
        Check.run(store, "w0 2 0 9;r0 1 0;s2 0;f1;g1 1;w3 1 3 3;s1 0;");
        store.undo();
        store.undo();
        store.clearText();
        Check.due("digest() of all but the number of saved states", before + 2, store.digest());
        store.sync(0, 2);
        Check.type(store, "f0;f1;");
        store.peek(2, 3);
        store.clock(9);
        store.undo();
        Check.due("errorCount(-5), which undo() leaves alone", 1, store.errorCount(-5));
        Check.due("errorCount(-2), which undo() leaves alone", 1, store.errorCount(-2));
        Check.due("execute() of the text, which undo() leaves alone", 2, store.execute());
        Check.due("clearText()", 6, store.clearText());
        store.undo();
        Check.due("clearText(), for undo() brings no text back", 0, store.clearText());
    }

    private void errorsChangeNothing() {
        rule("A call that returns an error code changes nothing except that it increments the counter of that code.",
                2, 3, 6, 7, 8, 16, 19, 22, 23);
        Store store = store();
        store.write(0, 0, 0, 1);
        store.setGuarantees(0, 15);
        store.setGuarantees(1, 1);
        store.setGuarantees(1, 2);
        long digest = store.digest();
        Check.refused("setGuarantees(0, 16)", store, -2, () -> store.setGuarantees(0, 16));
        Check.refused("forget(4)", store, -2, () -> store.forget(4));
        Check.refused("read(0, 0, 4)", store, -2, () -> store.read(0, 0, 4));
        Check.refused("write(0, 0, 0, 100)", store, -2, () -> store.write(0, 0, 0, 100));
        Check.refused("sync(1, 1)", store, -2, () -> store.sync(1, 1));
        Check.refused("read(0, 1, 0)", store, -3, () -> store.read(0, 1, 0));
        Check.refused("write(0, 1, 0, 0)", store, -3, () -> store.write(0, 1, 0, 0));
        Check.refused("peek(1, 0)", store, -5, () -> store.peek(1, 0));
        Check.refused("append(128)", store, -2, () -> store.append(128));
        Check.refused("errorCount(0)", store, -2, () -> store.errorCount(0));
        Check.holds("the counters show in the digest", digest != store.digest());
        // The four states saved before the errors are all there, and none besides.
        Check.due("undo()", 3, store.undo());
        Check.due("setGuarantees(1, 1)", 1, store.setGuarantees(1, 1));
        Check.due("undo()", 3, store.undo());
        Check.due("undo()", 2, store.undo());
        Check.due("undo()", 1, store.undo());
        Check.due("undo()", 0, store.undo());
        Check.due("writes() of the oldest state", 0, store.writes());
        Check.refused("undo()", store, -6, () -> store.undo());
        Check.due("writes() after a refused undo()", 0, store.writes());
        Check.due("write(0, 0, 0, 1)", 1, store.write(0, 0, 0, 1));
        Check.due("undo(), which a refused one has not spoiled", 0, store.undo());
    }

    private void errorsInsideCommands() {
        rule("Errors inside commands of the command text are not counted.", 21, 23);
        Store store = store();
        Check.fill(store);
        Check.due("execute, FULL", -1000, Check.run(store, "w0 0 0 0;"));
        Check.due("execute, OUT_OF_RANGE", -1001, Check.run(store, "f0;r0 3 0;"));
        Check.due("execute, NOT_ALLOWED twice", 1, Check.run(store, "g3 15;w3 0 0 0;r3 0 0;"));
        for (int code = -6; code <= -2; code++) {
            Check.due("errorCount(" + code + ")", 0, store.errorCount(code));
        }
    }
}
