/** Promises 6 to 13: read, write, sync, and what a client could do at which replica. */
public final class OperationsTest {
    public static void main(String[] args) {
        readsValues();
        readMergesVectors();
        readOfAbsentKey();
        readNotAllowed();
        readRequestsOnlyWhatConcernsReads();
        readOutOfRange();
        writeAnswersSequence();
        writeNotAllowed();
        writeRequestsOnlyWhatConcernsWrites();
        writeOutOfRange();
        writeFull();
        writeValuesAndKeys();
        syncLearns();
        syncGoesOneWay();
        syncKnowsNoGaps();
        syncOutOfRange();
        breachesWithoutRequest();
        breachesOutOfRange();
        suitableReplicas();
        noSuitableReplica();
        suitableOutOfRange();
        syncsForRead();
        syncsForReadOfTwo();
        syncsForReadLooksAtRequests();
        syncsForReadOutOfRange();
        Check.end();
    }

    private static void readsValues() {
        Store store = new Store();
        store.write(0, 0, 0, 0);
        store.write(0, 0, 3, 99);
        store.write(1, 1, 0, 50);
        Check.undoable("read(0, 0, 0)", store, 0, () -> store.read(0, 0, 0));
        Check.undoable("read(1, 0, 3)", store, 99, () -> store.read(1, 0, 3));
        Check.undoable("read(2, 1, 0)", store, 50, () -> store.read(2, 1, 0));
        Check.undoable("read(3, 2, 0)", store, 100, () -> store.read(3, 2, 0));
        Check.undoable("read(3, 2, 0) again, which changes nothing", store, 100, () -> store.read(3, 2, 0));
    }

    private static void readMergesVectors() {
        Store store = new Store();
        store.write(0, 0, 0, 1);
        store.write(0, 0, 0, 2);
        store.write(0, 1, 0, 3);
        store.read(1, 0, 0);
        Check.due("readCount(1, 0) after a read at 0", 2, store.readCount(1, 0));
        Check.due("readCount(1, 1) after a read at 0", 0, store.readCount(1, 1));
        store.read(1, 1, 0);
        Check.due("readCount(1, 0) after reads at 0 and 1", 2, store.readCount(1, 0));
        Check.due("readCount(1, 1) after reads at 0 and 1", 1, store.readCount(1, 1));
        Check.due("writeCount(1, 0) after reads", 0, store.writeCount(1, 0));
        Check.due("count(1, 0) after reads", 0, store.count(1, 0));
    }

    private static void readOfAbsentKey() {
        Store store = new Store();
        store.write(0, 0, 0, 1);
        Check.due("read(1, 0, 1)", 100, store.read(1, 0, 1));
        Check.due("readCount(1, 0) after a read of an absent key", 1, store.readCount(1, 0));
        Check.due("read(1, 1, 1)", 100, store.read(1, 1, 1));
        Check.due("breaches(1) after a read of an absent key", 1, store.breaches(1));
        Check.due("errorCount(-5) after a read of an absent key", 0, store.errorCount(-5));
    }

    private static void readNotAllowed() {
        Store store = new Store();
        store.setGuarantees(0, 1);
        store.setGuarantees(1, 2);
        store.setGuarantees(2, 3);
        store.write(0, 0, 0, 7);
        store.write(2, 0, 0, 8);
        store.read(1, 0, 0);
        Check.refused("read(0, 1, 0) against read your writes", store, -3, () -> store.read(0, 1, 0));
        Check.refused("read(1, 1, 0) against monotonic reads", store, -3, () -> store.read(1, 1, 0));
        Check.refused("read(2, 2, 0) against both", store, -3, () -> store.read(2, 2, 0));
        Check.refused("read(0, 1, 4) is out of range first", store, -2, () -> store.read(0, 1, 4));
        store.sync(0, 1);
        Check.undoable("read(0, 1, 0) after sync", store, 8, () -> store.read(0, 1, 0));
        Check.undoable("read(1, 1, 0) after sync", store, 8, () -> store.read(1, 1, 0));
        Check.undoable("read(2, 1, 0) after sync", store, 8, () -> store.read(2, 1, 0));
        Check.due("breaches(0) where all were requested", 0, store.breaches(0));
        Check.due("breaches(1) where all were requested", 0, store.breaches(1));
    }

    private static void readRequestsOnlyWhatConcernsReads() {
        Store store = new Store();
        store.setGuarantees(0, 12);
        store.write(0, 0, 0, 7);
        store.read(0, 0, 0);
        Check.undoable("read(0, 1, 0) with 12 requested", store, 100, () -> store.read(0, 1, 0));
        Check.due("breaches(0) with 12 requested", 1, store.breaches(0));
        Check.due("breaches(1) with 12 requested", 1, store.breaches(1));
        Check.due("breaches(2) by a read", 0, store.breaches(2));
        Check.due("breaches(3) by a read", 0, store.breaches(3));
        store.setGuarantees(0, 1);
        store.forget(0);
        store.read(0, 0, 0);
        Check.undoable("read(0, 2, 0) with 1 requested", store, 100, () -> store.read(0, 2, 0));
        Check.due("breaches(0) with 1 requested", 1, store.breaches(0));
        Check.due("breaches(1) with 1 requested", 2, store.breaches(1));
    }

    private static void readOutOfRange() {
        Store store = new Store();
        store.write(0, 0, 0, 1);
        for (int bad : Check.outside(4)) {
            Check.refused("read(" + bad + ", 0, 0)", store, -2, () -> store.read(bad, 0, 0));
            Check.refused("read(0, 0, " + bad + ")", store, -2, () -> store.read(0, 0, bad));
        }
        for (int bad : Check.outside(3)) {
            Check.refused("read(0, " + bad + ", 0)", store, -2, () -> store.read(0, bad, 0));
        }
    }

    private static void writeAnswersSequence() {
        Store store = new Store();
        Check.undoable("write(0, 0, 0, 5)", store, 1, () -> store.write(0, 0, 0, 5));
        Check.undoable("write(1, 0, 1, 6)", store, 2, () -> store.write(1, 0, 1, 6));
        Check.undoable("write(2, 2, 2, 7)", store, 1, () -> store.write(2, 2, 2, 7));
        Check.due("sync(0, 2)", 2, store.sync(0, 2));
        Check.undoable("write(0, 2, 0, 8)", store, 2, () -> store.write(0, 2, 0, 8));
        Check.due("writeCount(0, 0)", 1, store.writeCount(0, 0));
        Check.due("writeCount(0, 2)", 2, store.writeCount(0, 2));
        Check.due("readCount(0, 2) after a write", 0, store.readCount(0, 2));
        Check.due("count(2, 2)", 2, store.count(2, 2));
        Check.due("count(2, 0)", 2, store.count(2, 0));
        Check.due("clock(2), the greatest timestamp plus one", 3, store.clock(2));
        Check.due("writes()", 4, store.writes());
    }

    private static void writeNotAllowed() {
        Store store = new Store();
        store.setGuarantees(0, 8);
        store.setGuarantees(1, 4);
        store.write(0, 0, 0, 7);
        store.read(1, 0, 0);
        Check.refused("write(0, 1, 0, 1) against monotonic writes", store, -3, () -> store.write(0, 1, 0, 1));
        Check.refused("write(1, 1, 0, 1) against writes follow reads", store, -3, () -> store.write(1, 1, 0, 1));
        Check.refused("write(0, 1, 0, 100) is out of range first", store, -2, () -> store.write(0, 1, 0, 100));
        store.sync(0, 1);
        Check.undoable("write(0, 1, 0, 1) after sync", store, 1, () -> store.write(0, 1, 0, 1));
        Check.undoable("write(1, 1, 0, 1) after sync", store, 2, () -> store.write(1, 1, 0, 1));
        Check.due("breaches(2) where it was requested", 0, store.breaches(2));
        Check.due("breaches(3) where it was requested", 0, store.breaches(3));
    }

    private static void writeRequestsOnlyWhatConcernsWrites() {
        Store store = new Store();
        store.setGuarantees(0, 3);
        store.write(0, 0, 0, 7);
        store.read(0, 0, 0);
        Check.undoable("write(0, 1, 0, 1) with 3 requested", store, 1, () -> store.write(0, 1, 0, 1));
        Check.due("breaches(0) by a write", 0, store.breaches(0));
        Check.due("breaches(1) by a write", 0, store.breaches(1));
        Check.due("breaches(2) with 3 requested", 1, store.breaches(2));
        Check.due("breaches(3) with 3 requested", 1, store.breaches(3));
        store.setGuarantees(0, 4);
        store.forget(0);
        store.write(0, 0, 0, 7);
        Check.undoable("write(0, 2, 0, 1) with 4 requested", store, 1, () -> store.write(0, 2, 0, 1));
        Check.due("breaches(2) with 4 requested", 1, store.breaches(2));
        Check.due("breaches(3) with 4 requested", 2, store.breaches(3));
    }

    private static void writeOutOfRange() {
        Store store = new Store();
        store.write(0, 0, 0, 1);
        for (int bad : Check.outside(4)) {
            Check.refused("write(" + bad + ", 0, 0, 0)", store, -2, () -> store.write(bad, 0, 0, 0));
            Check.refused("write(0, 0, " + bad + ", 0)", store, -2, () -> store.write(0, 0, bad, 0));
        }
        for (int bad : Check.outside(3)) {
            Check.refused("write(0, " + bad + ", 0, 0)", store, -2, () -> store.write(0, bad, 0, 0));
        }
        for (int bad : Check.outside(100)) {
            Check.refused("write(0, 0, 0, " + bad + ")", store, -2, () -> store.write(0, 0, 0, bad));
        }
    }

    private static void writeFull() {
        Store store = new Store();
        Check.fill(store);
        Check.refused("write(0, 0, 0, 1) to a full store", store, -4, () -> store.write(0, 0, 0, 1));
        Check.refused("write(0, 0, 0, 100) is out of range first", store, -2, () -> store.write(0, 0, 0, 100));
        store.setGuarantees(3, 8);
        Check.refused("write(3, 0, 0, 1) is not allowed first", store, -3, () -> store.write(3, 0, 0, 1));
        store.undo();
        store.undo();
        Check.undoable("write(0, 2, 0, 1) where room is again", store, 20, () -> store.write(0, 2, 0, 1));
        Check.refused("write(0, 0, 0, 1) to the store full again", store, -4, () -> store.write(0, 0, 0, 1));

        Store single = new Store();
        for (int i = 1; i <= 60; i++) {
            Check.due("write " + i + " at one replica", i, single.write(0, 1, 0, i));
        }
        Check.refused("write 61 at one replica", single, -4, () -> single.write(0, 1, 0, 61));
        Check.due("sync(1, 2) of 60 writes", 60, single.sync(1, 2));
        Check.due("peek(2, 0) after 60 writes", 60, single.peek(2, 0));
    }

    private static void writeValuesAndKeys() {
        Store store = new Store();
        for (int key = 0; key < 4; key++) {
            store.write(key, 1, key, 33 * key);
        }
        for (int key = 0; key < 4; key++) {
            Check.due("peek(1, " + key + ")", 33 * key, store.peek(1, key));
        }
        store.write(0, 1, 3, 0);
        Check.due("peek(1, 3) after a later write of 0", 0, store.peek(1, 3));
    }

    private static void syncLearns() {
        Store store = new Store();
        store.write(0, 0, 0, 1);
        store.write(0, 0, 1, 2);
        store.write(0, 1, 2, 3);
        Check.undoable("sync(0, 1)", store, 2, () -> store.sync(0, 1));
        Check.undoable("sync(0, 1) again, which changes nothing", store, 0, () -> store.sync(0, 1));
        Check.undoable("sync(1, 2)", store, 3, () -> store.sync(1, 2));
        Check.undoable("sync(2, 0)", store, 1, () -> store.sync(2, 0));
        Check.due("writes() after syncs", 3, store.writes());
        Check.due("peek(0, 2)", 3, store.peek(0, 2));
        Check.due("clock(1), which learned timestamp 2", 2, store.clock(1));
        Check.due("clock(2)", 2, store.clock(2));
        Check.due("clock(0), which learned timestamp 1", 2, store.clock(0));
        Check.due("readCount(0, 0), no client takes part", 0, store.readCount(0, 0));
    }

    private static void syncGoesOneWay() {
        Store store = new Store();
        store.write(0, 0, 0, 1);
        store.write(1, 1, 0, 2);
        store.write(1, 1, 0, 3);
        Check.due("sync(0, 1)", 1, store.sync(0, 1));
        Check.due("count(0, 1), the sender stays as it is", 0, store.count(0, 1));
        Check.due("clock(0), the sender stays as it is", 1, store.clock(0));
        Check.due("peek(0, 0), the sender stays as it is", 1, store.peek(0, 0));
        Check.due("clock(1), greater than what it learned", 2, store.clock(1));
        Check.due("peek(1, 0), later than what it learned", 3, store.peek(1, 0));
    }

    private static void syncKnowsNoGaps() {
        Store store = new Store();
        store.write(0, 0, 0, 1);
        store.sync(0, 1);
        store.write(0, 0, 0, 2);
        store.sync(1, 2);
        Check.due("count(2, 0) by way of replica 1", 1, store.count(2, 0));
        Check.due("peek(2, 0) by way of replica 1", 1, store.peek(2, 0));
        Check.due("sync(0, 2)", 1, store.sync(0, 2));
        Check.due("sync(1, 2), which knows less", 0, store.sync(1, 2));
        Check.due("count(2, 0) after an old sync", 2, store.count(2, 0));
        Check.due("peek(2, 0) after an old sync", 2, store.peek(2, 0));
    }

    private static void syncOutOfRange() {
        Store store = new Store();
        store.write(0, 0, 0, 1);
        for (int bad : Check.outside(3)) {
            Check.refused("sync(" + bad + ", 0)", store, -2, () -> store.sync(bad, 0));
            Check.refused("sync(0, " + bad + ")", store, -2, () -> store.sync(0, bad));
            Check.refused("sync(" + bad + ", " + bad + ")", store, -2, () -> store.sync(bad, bad));
        }
        for (int replica = 0; replica < 3; replica++) {
            int same = replica;
            Check.refused("sync(" + same + ", " + same + ")", store, -2, () -> store.sync(same, same));
        }
    }

    private static void breachesWithoutRequest() {
        Store store = new Store();
        store.write(0, 0, 0, 1);
        store.write(1, 1, 0, 1);
        store.read(1, 0, 0);
        store.read(2, 0, 0);
        store.setGuarantees(2, 15);
        int[][] reads = {{0, 1, 1}, {1, 2, 3}, {0, 2, 2}, {0, 0, 0}};
        int[][] writes = {{0, 8, 8}, {8, 4, 12}, {0, 4, 4}, {0, 0, 0}};
        for (int client = 0; client < 4; client++) {
            for (int replica = 0; replica < 3; replica++) {
                int c = client;
                int r = replica;
                Check.plain("readBreaches(" + c + ", " + r + ")", store, reads[c][r], () -> store.readBreaches(c, r));
                Check.plain("writeBreaches(" + c + ", " + r + ")", store, writes[c][r],
                        () -> store.writeBreaches(c, r));
            }
        }
    }

    private static void breachesOutOfRange() {
        Store store = new Store();
        for (int bad : Check.outside(4)) {
            Check.refused("readBreaches(" + bad + ", 0)", store, -2, () -> store.readBreaches(bad, 0));
            Check.refused("writeBreaches(" + bad + ", 0)", store, -2, () -> store.writeBreaches(bad, 0));
        }
        for (int bad : Check.outside(3)) {
            Check.refused("readBreaches(0, " + bad + ")", store, -2, () -> store.readBreaches(0, bad));
            Check.refused("writeBreaches(0, " + bad + ")", store, -2, () -> store.writeBreaches(0, bad));
        }
    }

    private static void suitableReplicas() {
        Store store = new Store();
        Check.plain("readableReplica(0) of a new object", store, 0, () -> store.readableReplica(0));
        Check.plain("writableReplica(0) of a new object", store, 0, () -> store.writableReplica(0));
        store.write(0, 2, 0, 1);
        store.write(1, 1, 0, 1);
        store.read(2, 2, 0);
        Check.plain("readableReplica(0) without requests", store, 0, () -> store.readableReplica(0));
        Check.plain("writableReplica(0) without requests", store, 0, () -> store.writableReplica(0));
        store.setGuarantees(0, 1);
        Check.plain("readableReplica(0) with 1", store, 2, () -> store.readableReplica(0));
        Check.plain("writableReplica(0) with 1", store, 0, () -> store.writableReplica(0));
        store.setGuarantees(0, 8);
        Check.plain("readableReplica(0) with 8", store, 0, () -> store.readableReplica(0));
        Check.plain("writableReplica(0) with 8", store, 2, () -> store.writableReplica(0));
        store.setGuarantees(1, 15);
        Check.plain("readableReplica(1) with 15", store, 1, () -> store.readableReplica(1));
        Check.plain("writableReplica(1) with 15", store, 1, () -> store.writableReplica(1));
        store.setGuarantees(2, 2);
        Check.plain("readableReplica(2) with 2", store, 2, () -> store.readableReplica(2));
        store.setGuarantees(2, 4);
        Check.plain("writableReplica(2) with 4", store, 2, () -> store.writableReplica(2));
        Check.plain("readableReplica(2) with 4", store, 0, () -> store.readableReplica(2));
    }

    private static void noSuitableReplica() {
        Store store = new Store();
        store.write(0, 0, 0, 1);
        store.write(0, 1, 0, 1);
        store.setGuarantees(0, 9);
        Check.plain("readableReplica(0) where none is", store, -1, () -> store.readableReplica(0));
        Check.plain("writableReplica(0) where none is", store, -1, () -> store.writableReplica(0));
        store.sync(0, 1);
        Check.plain("readableReplica(0) after sync", store, 1, () -> store.readableReplica(0));
        Check.plain("writableReplica(0) after sync", store, 1, () -> store.writableReplica(0));
        Store full = new Store();
        Check.fill(full);
        Check.plain("writableReplica(0) of a full store asks for allowance alone", full, 0,
                () -> full.writableReplica(0));
    }

    private static void suitableOutOfRange() {
        Store store = new Store();
        for (int bad : Check.outside(4)) {
            Check.refused("readableReplica(" + bad + ")", store, -2, () -> store.readableReplica(bad));
            Check.refused("writableReplica(" + bad + ")", store, -2, () -> store.writableReplica(bad));
        }
    }

    private static void syncsForRead() {
        Store store = new Store();
        store.setGuarantees(0, 3);
        store.write(0, 2, 0, 1);
        Check.plain("syncsForRead(0, 2), allowed already", store, 0, () -> store.syncsForRead(0, 2));
        Check.plain("syncsForRead(0, 0) from 2", store, 4, () -> store.syncsForRead(0, 0));
        Check.plain("syncsForRead(0, 1) from 2", store, 4, () -> store.syncsForRead(0, 1));
        store.sync(2, 1);
        Check.plain("syncsForRead(0, 0) from 1 or 2", store, 2, () -> store.syncsForRead(0, 0));
        Check.plain("syncsForRead(0, 1) after sync", store, 0, () -> store.syncsForRead(0, 1));
    }

    private static void syncsForReadOfTwo() {
        Store store = new Store();
        store.setGuarantees(0, 1);
        store.write(0, 1, 0, 1);
        store.write(0, 2, 0, 1);
        Check.plain("syncsForRead(0, 0) from both", store, 6, () -> store.syncsForRead(0, 0));
        Check.plain("syncsForRead(0, 1) from 2", store, 4, () -> store.syncsForRead(0, 1));
        Check.plain("syncsForRead(0, 2) from 1", store, 2, () -> store.syncsForRead(0, 2));
        store.write(0, 0, 0, 1);
        Check.plain("syncsForRead(0, 0) from 1 and 2", store, 6, () -> store.syncsForRead(0, 0));
        Check.plain("syncsForRead(0, 1) from 0 and 2", store, 5, () -> store.syncsForRead(0, 1));
        Check.plain("syncsForRead(0, 2) from 0 and 1", store, 3, () -> store.syncsForRead(0, 2));
        store.sync(1, 2);
        Check.plain("syncsForRead(0, 0), one greater set before two", store, 4, () -> store.syncsForRead(0, 0));
        Check.plain("syncsForRead(0, 2) from 0", store, 1, () -> store.syncsForRead(0, 2));
    }

    private static void syncsForReadLooksAtRequests() {
        Store store = new Store();
        store.write(0, 1, 0, 1);
        store.read(0, 2, 0);
        store.write(1, 2, 0, 1);
        store.read(0, 2, 0);
        store.setGuarantees(0, 12);
        Check.plain("syncsForRead(0, 0) with 12", store, 0, () -> store.syncsForRead(0, 0));
        store.setGuarantees(0, 1);
        Check.plain("syncsForRead(0, 0) with 1", store, 2, () -> store.syncsForRead(0, 0));
        store.setGuarantees(0, 2);
        Check.plain("syncsForRead(0, 0) with 2", store, 4, () -> store.syncsForRead(0, 0));
        store.setGuarantees(0, 3);
        Check.plain("syncsForRead(0, 0) with 3", store, 6, () -> store.syncsForRead(0, 0));
    }

    private static void syncsForReadOutOfRange() {
        Store store = new Store();
        for (int bad : Check.outside(4)) {
            Check.refused("syncsForRead(" + bad + ", 0)", store, -2, () -> store.syncsForRead(bad, 0));
        }
        for (int bad : Check.outside(3)) {
            Check.refused("syncsForRead(0, " + bad + ")", store, -2, () -> store.syncsForRead(0, bad));
        }
    }
}
