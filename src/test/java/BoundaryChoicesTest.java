/** The boundary cases of promises 9 to 13, a sentence each: what a client could do at which replica. */
public final class BoundaryChoicesTest extends Boundary {
    public static void main(String[] args) {
        new BoundaryChoicesTest().runAtEveryAge();
    }

    @Override
    void sentences() {
        readBreachesRequestedOrNot();
        readBreachesSubset();
        readBreachesOutOfRange();
        writeBreachesRequestedOrNot();
        writeBreachesSubset();
        writeBreachesOutOfRange();
        readableLowest();
        readableNone();
        readableOutOfRange();
        writableLowest();
        writableNone();
        writableOutOfRange();
        syncsStandForSyncs();
        syncsSmallest();
        syncsOfEqualSize();
        syncsAllowedAlready();
        syncsNone();
        syncsOutOfRange();
    }

    /** A client 0 that wrote at replica 0 and read at replica 1, where client 1 wrote. */
    private Store wroteAtZeroAndReadAtOne() {
        Store store = store();
        store.write(1, 1, 0, 1);
        store.read(0, 1, 0);
        store.write(0, 0, 0, 2);
        return store;
    }

    private void readBreachesRequestedOrNot() {
        sentence(9, "Returns the guarantees that a read of a client at a replica would not satisfy, "
                + "requested or not.");
        Store store = wroteAtZeroAndReadAtOne();
        int[] wanted = {2, 1, 3};
        for (int set = 0; set < 16; set++) {
            store.setGuarantees(0, set);
            for (int replica = 0; replica < 3; replica++) {
                Check.due("readBreaches(0, " + replica + ") with " + set, wanted[replica],
                        store.readBreaches(0, replica));
            }
        }
    }

    private void readBreachesSubset() {
        sentence(9, "Returns a subset of the set 3 (read your writes and monotonic reads)");
        Store store = wroteAtZeroAndReadAtOne();
        Check.plain("readBreaches(0, 0)", store, 2, () -> store.readBreaches(0, 0));
        Check.plain("readBreaches(0, 1)", store, 1, () -> store.readBreaches(0, 1));
        Check.plain("readBreaches(0, 2)", store, 3, () -> store.readBreaches(0, 2));
        Check.plain("readBreaches(2, 2)", store, 0, () -> store.readBreaches(2, 2));
        store.sync(0, 2);
        Check.plain("readBreaches(0, 2) after sync(0, 2)", store, 2, () -> store.readBreaches(0, 2));
        store.sync(1, 2);
        Check.plain("readBreaches(0, 2) after both syncs", store, 0, () -> store.readBreaches(0, 2));
        store.forget(0);
        Check.plain("readBreaches(0, 1) after forget(0)", store, 0, () -> store.readBreaches(0, 1));
    }

    private void readBreachesOutOfRange() {
        sentence(9, "OUT_OF_RANGE if an argument is out of range.");
        everyMix("readBreaches", (store, a) -> store.readBreaches(a[0], a[1]), 4, 3);
    }

    private void writeBreachesRequestedOrNot() {
        sentence(10, "Returns the guarantees that a write of a client at a replica would not satisfy, "
                + "requested or not.");
        Store store = wroteAtZeroAndReadAtOne();
        int[] wanted = {4, 8, 12};
        for (int set = 0; set < 16; set++) {
            store.setGuarantees(0, set);
            for (int replica = 0; replica < 3; replica++) {
                Check.due("writeBreaches(0, " + replica + ") with " + set, wanted[replica],
                        store.writeBreaches(0, replica));
            }
        }
    }

    private void writeBreachesSubset() {
        sentence(10, "Returns a subset of the set 12 (writes follow reads and monotonic writes)");
        Store store = wroteAtZeroAndReadAtOne();
        Check.plain("writeBreaches(0, 0)", store, 4, () -> store.writeBreaches(0, 0));
        Check.plain("writeBreaches(0, 1)", store, 8, () -> store.writeBreaches(0, 1));
        Check.plain("writeBreaches(0, 2)", store, 12, () -> store.writeBreaches(0, 2));
        Check.plain("writeBreaches(2, 2)", store, 0, () -> store.writeBreaches(2, 2));
        store.sync(1, 2);
        Check.plain("writeBreaches(0, 2) after sync(1, 2)", store, 8, () -> store.writeBreaches(0, 2));
        store.sync(0, 2);
        Check.plain("writeBreaches(0, 2) after both syncs", store, 0, () -> store.writeBreaches(0, 2));
        Store full = store();
        Check.fill(full);
        Check.plain("writeBreaches(0, 0) of a full store", full, 0, () -> full.writeBreaches(0, 0));
    }

    private void writeBreachesOutOfRange() {
        sentence(10, "OUT_OF_RANGE if an argument is out of range.");
        everyMix("writeBreaches", (store, a) -> store.writeBreaches(a[0], a[1]), 4, 3);
    }

    private void readableLowest() {
        sentence(11, "Returns the lowest number of a replica at which a read is allowed");
        for (int origin = 0; origin < 3; origin++) {
            for (int learner = 0; learner < 3; learner++) {
                Store store = store();
                store.setGuarantees(3, 3);
                Check.plain("readableReplica(3) before a write", store, 0, () -> store.readableReplica(3));
                store.write(3, origin, 0, 1);
                store.sync(origin, learner);
                int lowest = Math.min(origin, learner);
                Check.plain("readableReplica(3), written at " + origin + ", learned by " + learner, store, lowest,
                        () -> store.readableReplica(3));
                Check.plain("readableReplica(2), which asks for nothing", store, 0, () -> store.readableReplica(2));
                store.setGuarantees(3, 12);
                Check.plain("readableReplica(3), which asks for nothing of reads", store, 0,
                        () -> store.readableReplica(3));
            }
        }
    }

    private void readableNone() {
        sentence(11, "NONE if there is none");
        Store store = store();
        store.write(0, 0, 0, 1);
        store.write(0, 1, 0, 1);
        store.setGuarantees(0, 1);
        Check.plain("readableReplica(0) after writes at two replicas", store, -1, () -> store.readableReplica(0));
        store.sync(0, 2);
        Check.plain("readableReplica(0), replica 2 one write short", store, -1, () -> store.readableReplica(0));
        store.sync(1, 2);
        Check.plain("readableReplica(0), replica 2 with both writes", store, 2, () -> store.readableReplica(0));
        store.write(1, 0, 0, 1);
        store.write(1, 2, 0, 1);
        store.read(1, 0, 0);
        store.read(1, 2, 0);
        store.setGuarantees(1, 2);
        Check.plain("readableReplica(1) after reads at two replicas", store, -1, () -> store.readableReplica(1));
        for (int code = -6; code <= -2; code++) {
            Check.due("errorCount(" + code + "), NONE is not counted", 0, store.errorCount(code));
        }
    }

    private void readableOutOfRange() {
        sentence(11, "OUT_OF_RANGE if there is no such client.");
        everyMix("readableReplica", (store, a) -> store.readableReplica(a[0]), 4);
    }

    private void writableLowest() {
        sentence(12, "Returns the lowest number of a replica at which a write is allowed");
        for (int origin = 0; origin < 3; origin++) {
            for (int learner = 0; learner < 3; learner++) {
                Store store = store();
                store.setGuarantees(3, 12);
                Check.plain("writableReplica(3) before a write", store, 0, () -> store.writableReplica(3));
                store.write(3, origin, 0, 1);
                store.sync(origin, learner);
                int lowest = Math.min(origin, learner);
                Check.plain("writableReplica(3), written at " + origin + ", learned by " + learner, store, lowest,
                        () -> store.writableReplica(3));
                Check.plain("writableReplica(2), which asks for nothing", store, 0, () -> store.writableReplica(2));
                store.setGuarantees(3, 3);
                Check.plain("writableReplica(3), which asks for nothing of writes", store, 0,
                        () -> store.writableReplica(3));
            }
        }
    }

    private void writableNone() {
        sentence(12, "NONE if there is none");
        Store store = store();
        store.write(0, 1, 0, 1);
        store.write(0, 2, 0, 1);
        store.setGuarantees(0, 8);
        Check.plain("writableReplica(0) after writes at two replicas", store, -1, () -> store.writableReplica(0));
        store.sync(1, 0);
        Check.plain("writableReplica(0), replica 0 one write short", store, -1, () -> store.writableReplica(0));
        store.sync(2, 1);
        Check.plain("writableReplica(0), replica 1 with both writes", store, 1, () -> store.writableReplica(0));
        store.write(3, 0, 0, 1);
        store.read(1, 0, 0);
        store.read(1, 2, 0);
        store.setGuarantees(1, 4);
        Check.plain("writableReplica(1) after reads at two replicas", store, -1, () -> store.writableReplica(1));
        for (int code = -6; code <= -2; code++) {
            Check.due("errorCount(" + code + "), NONE is not counted", 0, store.errorCount(code));
        }
        Store full = store();
        Check.fill(full);
        Check.plain("writableReplica(0) of a full store, for it is allowed", full, 0, () -> full.writableReplica(0));
        full.setGuarantees(3, 8);
        Check.plain("writableReplica(3) of a full store", full, -1, () -> full.writableReplica(3));
    }

    private void writableOutOfRange() {
        sentence(12, "OUT_OF_RANGE if there is no such client.");
        everyMix("writableReplica", (store, a) -> store.writableReplica(a[0]), 4);
    }

    /** What writes and syncs make of the answer: the read must be refused before and allowed after. */
    private void syncsStandForSyncs() {
        sentence(13, "Each set of other replicas stands for synchronizing from all members of the set to the replica.");
        for (int written = 1; written < 8; written++) {
            for (int replica = 0; replica < 3; replica++) {
                Store store = store();
                for (int origin = 0; origin < 3; origin++) {
                    if ((written >> origin & 1) != 0) {
                        store.write(0, origin, 0, 1);
                    }
                }
                store.setGuarantees(0, 3);
                int at = replica;
                int others = written & ~(1 << replica);
                Check.plain("syncsForRead at " + at + " after writes at " + written, store, others,
                        () -> store.syncsForRead(0, at));
                for (int other = 0; other < 3; other++) {
                    if ((others >> other & 1) != 0) {
                        Check.refused("read(0, " + at + ", 0) before a sync", store, -3, () -> store.read(0, at, 0));
                        store.sync(other, at);
                    }
                }
                Check.plain("syncsForRead after these syncs", store, 0, () -> store.syncsForRead(0, at));
                Check.due("read(0, " + at + ", 0) after these syncs", 1, store.read(0, at, 0));
            }
        }
    }

    private void syncsSmallest() {
        sentence(13, "Returns the smallest suitable set as a bit set (bit k for replica k)");
        for (int replica = 0; replica < 3; replica++) {
            int at = replica;
            int low = replica == 0 ? 1 : 0;
            int high = replica == 2 ? 1 : 2;
            Store store = store();
            store.setGuarantees(0, 1);
            store.write(0, high, 0, 1);
            Check.plain("syncsForRead, from the higher one", store, 1 << high, () -> store.syncsForRead(0, at));
            store.write(0, low, 0, 1);
            Check.plain("syncsForRead, from both", store, 1 << low | 1 << high, () -> store.syncsForRead(0, at));
            store.sync(low, high);
            Check.plain("syncsForRead, the higher one knows both", store, 1 << high, () -> store.syncsForRead(0, at));
            Store other = store();
            other.setGuarantees(0, 1);
            other.write(0, low, 0, 1);
            Check.plain("syncsForRead, from the lower one", other, 1 << low, () -> other.syncsForRead(0, at));
        }
    }

    private void syncsOfEqualSize() {
        sentence(13, "among sets of equal size the one that is the smallest number");
        for (int replica = 0; replica < 3; replica++) {
            int at = replica;
            int low = replica == 0 ? 1 : 0;
            int high = replica == 2 ? 1 : 2;
            Store store = store();
            store.setGuarantees(0, 2);
            store.write(1, high, 0, 1);
            store.read(0, high, 0);
            Check.plain("syncsForRead, where one set is suitable", store, 1 << high, () -> store.syncsForRead(0, at));
            store.sync(high, low);
            Check.plain("syncsForRead, where both sets are", store, 1 << low, () -> store.syncsForRead(0, at));
        }
    }

    private void syncsAllowedAlready() {
        sentence(13, "0 if the read is allowed already");
        for (int replica = 0; replica < 3; replica++) {
            int at = replica;
            Store store = store();
            store.setGuarantees(0, 15);
            Check.plain("syncsForRead of a new object", store, 0, () -> store.syncsForRead(0, at));
            store.write(0, replica, 0, 1);
            store.write(1, (replica + 1) % 3, 0, 1);
            Check.plain("syncsForRead where the write was", store, 0, () -> store.syncsForRead(0, at));
            Check.plain("syncsForRead of a client without requests", store, 0, () -> store.syncsForRead(1, at));
            store.setGuarantees(1, 12);
            Check.plain("syncsForRead with no request of reads", store, 0, () -> store.syncsForRead(1, at));
            store.setGuarantees(1, 14);
            Check.plain("syncsForRead of a client that has not read", store, 0, () -> store.syncsForRead(1, at));
        }
    }

    /** Each origin knows its own writes, so the two other replicas together are always suitable. */
    private void syncsNone() {
        sentence(13, "NONE if no set is suitable");
        Store store = store();
        Check.fill(store);
        for (int replica = 0; replica < 3; replica++) {
            store.read(3, replica, 0);
        }
        store.setGuarantees(3, 15);
        Check.plain("readableReplica(3)", store, -1, () -> store.readableReplica(3));
        for (int replica = 0; replica < 3; replica++) {
            int at = replica;
            Check.plain("syncsForRead(3, " + at + ") of a full store", store, 7 - (1 << at),
                    () -> store.syncsForRead(3, at));
        }
    }

    private void syncsOutOfRange() {
        sentence(13, "OUT_OF_RANGE if an argument is out of range.");
        everyMix("syncsForRead", (store, a) -> store.syncsForRead(a[0], a[1]), 4, 3);
    }
}
