/** The boundary cases of promises 6 to 8, a sentence each. */
public final class BoundaryOperationsTest extends Boundary {
    public static void main(String[] args) {
        new BoundaryOperationsTest().runAtEveryAge();
    }

    @Override
    void sentences() {
        readUndoable();
        readOfAbsentKey();
        readValue();
        readOutOfRange();
        readOutOfRangeFirst();
        readNotAllowed();
        writeUndoable();
        writeValueRange();
        writeSequence();
        writeOutOfRange();
        writeOutOfRangeFirst();
        writeNotAllowedSecond();
        writeFull();
        syncUndoable();
        syncLearned();
        syncOutOfRange();
    }

    private void readUndoable() {
        sentence(6, "Reads a key on behalf of a client. Undoable.");
        Store store = store();
        Check.undoable("read(0, 0, 0) of a new object, which changes nothing", store, 100, () -> store.read(0, 0, 0));
        store.write(1, 0, 0, 0);
        Check.undoable("read(0, 0, 0)", store, 0, () -> store.read(0, 0, 0));
        Check.undoable("read(0, 0, 0) again, which changes nothing", store, 0, () -> store.read(0, 0, 0));
        Check.undoable("read(0, 1, 3) with a breach", store, 100, () -> store.read(0, 1, 3));
        store.undo();
        Check.due("breaches(1) after undo()", 0, store.breaches(1));
    }

    private void readOfAbsentKey() {
        sentence(6, "A read of an absent key is successful (it has all the effects of a read).");
        Store store = store();
        store.write(0, 0, 0, 1);
        store.write(0, 2, 1, 1);
        store.write(1, 0, 0, 1);
        Check.due("read(1, 0, 3)", 100, store.read(1, 0, 3));
        Check.due("readCount(1, 0)", 2, store.readCount(1, 0));
        Check.due("read(1, 2, 0)", 100, store.read(1, 2, 0));
        Check.due("readCount(1, 2)", 1, store.readCount(1, 2));
        Check.due("readCount(1, 0), the greater one stays", 2, store.readCount(1, 0));
        Check.due("breaches(0)", 1, store.breaches(0));
        Check.due("breaches(1)", 1, store.breaches(1));
        Check.due("errorCount(-5)", 0, store.errorCount(-5));
        Check.due("undo()", 3, store.undo());
        Check.due("readCount(1, 2) after undo()", 0, store.readCount(1, 2));
        Check.due("breaches(1) after undo()", 0, store.breaches(1));
        store.setGuarantees(1, 2);
        Check.refused("read(1, 1, 3) of an absent key, not allowed", store, -3, () -> store.read(1, 1, 3));
    }

    private void readValue() {
        sentence(6, "Returns the value, 0 to 99, or 100 if the key is absent");
        Store store = store();
        for (int key = 0; key < 4; key++) {
            Check.due("read(0, 2, " + key + ") before a write", 100, store.read(0, 2, key));
        }
        store.write(0, 2, 0, 0);
        store.write(0, 2, 3, 99);
        Check.due("read(0, 2, 0) of the least value", 0, store.read(0, 2, 0));
        Check.due("read(0, 2, 3) of the greatest value", 99, store.read(0, 2, 3));
        Check.due("read(0, 2, 1) of a key without a write", 100, store.read(0, 2, 1));
        Check.due("read(0, 1, 0) at a replica that did not learn it", 100, store.read(0, 1, 0));
        store.undo();
        store.undo();
        store.undo();
        store.undo();
        store.write(0, 2, 3, 0);
        Check.due("read(0, 2, 3) of 0 written over 99", 0, store.read(0, 2, 3));
    }

    private void readOutOfRange() {
        sentence(6, "OUT_OF_RANGE if an argument is out of range");
        everyMix("read", (store, a) -> store.read(a[0], a[1], a[2]), 4, 3, 4);
    }

    private void readOutOfRangeFirst() {
        sentence(6, "OUT_OF_RANGE if an argument is out of range (checked first)");
        Store store = store();
        store.setGuarantees(0, 15);
        store.write(0, 0, 0, 1);
        for (int bad : Check.outside(4)) {
            Check.refused("read(0, 1, " + bad + "), not allowed either", store, -2, () -> store.read(0, 1, bad));
        }
        Check.refused("read(0, 1, 3)", store, -3, () -> store.read(0, 1, 3));
    }

    private void readNotAllowed() {
        sentence(6, "NOT_ALLOWED if the read is not allowed.");
        for (int origin = 0; origin < 3; origin++) {
            int at = (origin + 1) % 3;
            Store store = store();
            store.write(0, origin, 0, 1);
            store.sync(origin, at);
            store.write(0, origin, 0, 2);
            store.read(1, origin, 0);
            store.setGuarantees(0, 1);
            store.setGuarantees(1, 2);
            Check.refused("read(0, ..) one write short", store, -3, () -> store.read(0, at, 0));
            Check.refused("read(1, ..) one write short", store, -3, () -> store.read(1, at, 0));
            Check.refused("read(0, ..) of an absent key, one write short", store, -3, () -> store.read(0, at, 3));
            store.sync(origin, at);
            Check.undoable("read(0, ..) with no write more than needed", store, 2, () -> store.read(0, at, 0));
            Check.undoable("read(1, ..) with no write more than needed", store, 2, () -> store.read(1, at, 0));
            Check.due("errorCount(-3)", 3, store.errorCount(-3));
        }
    }

    private void writeUndoable() {
        sentence(7, "Writes a key on behalf of a client. Undoable.");
        Store store = store();
        Check.undoable("write(0, 0, 0, 7)", store, 1, () -> store.write(0, 0, 0, 7));
        Check.undoable("write(0, 0, 0, 7) again", store, 2, () -> store.write(0, 0, 0, 7));
        Check.undoable("write(0, 1, 3, 0) with a breach", store, 1, () -> store.write(0, 1, 3, 0));
        store.undo();
        Check.due("breaches(3) after undo()", 0, store.breaches(3));
        Check.due("writes() after undo()", 2, store.writes());
        Check.due("clock(1) after undo()", 0, store.clock(1));
        Check.due("writeCount(0, 1) after undo()", 0, store.writeCount(0, 1));
    }

    private void writeValueRange() {
        sentence(7, "`value`: new value, 0 to 99");
        Store store = store();
        Check.due("write(0, 0, 0, 0)", 1, store.write(0, 0, 0, 0));
        Check.due("peek(0, 0)", 0, store.peek(0, 0));
        Check.due("write(0, 0, 0, 99)", 2, store.write(0, 0, 0, 99));
        Check.due("peek(0, 0)", 99, store.peek(0, 0));
        Check.refused("write(0, 0, 0, 100)", store, -2, () -> store.write(0, 0, 0, 100));
        Check.refused("write(0, 0, 0, -1)", store, -2, () -> store.write(0, 0, 0, -1));
        Check.due("peek(0, 0) after refused writes", 99, store.peek(0, 0));
        Check.due("write(3, 2, 3, 99)", 1, store.write(3, 2, 3, 99));
    }

    private void writeSequence() {
        sentence(7, "Returns the sequence number of the new write");
        for (int origin = 0; origin < 3; origin++) {
            Store store = store();
            for (int i = 1; i <= 30; i++) {
                Check.due("write at " + origin, i, store.write(i % 4, origin, i % 4, i));
            }
            int other = (origin + 1) % 3;
            store.sync(origin, other);
            Check.due("the first write of a replica that knows 30", 1, store.write(0, other, 0, 1));
            store.sync(other, origin);
            for (int i = 31; i <= 59; i++) {
                Check.due("write at " + origin, i, store.write(i % 4, origin, i % 4, i));
            }
        }
    }

    private void writeOutOfRange() {
        sentence(7, "OUT_OF_RANGE if an argument is out of range");
        everyMix("write", (store, a) -> store.write(a[0], a[1], a[2], a[3]), 4, 3, 4, 100);
    }

    private void writeOutOfRangeFirst() {
        sentence(7, "OUT_OF_RANGE if an argument is out of range (checked first)");
        Store late = store();
        late.setGuarantees(0, 15);
        late.write(0, 0, 0, 1);
        Check.refused("write(0, 1, 4, 0), not allowed either", late, -2, () -> late.write(0, 1, 4, 0));
        Check.refused("write(0, 1, 0, 100), not allowed either", late, -2, () -> late.write(0, 1, 0, 100));
        Check.refused("write(0, 1, -1, -1), not allowed either", late, -2, () -> late.write(0, 1, -1, -1));
        Store full = store();
        Check.fill(full);
        Check.refused("write(4, 0, 0, 0), full as well", full, -2, () -> full.write(4, 0, 0, 0));
        Check.refused("write(0, 3, 0, 0), full as well", full, -2, () -> full.write(0, 3, 0, 0));
        Check.refused("write(0, 0, 4, 0), full as well", full, -2, () -> full.write(0, 0, 4, 0));
        Check.refused("write(0, 0, 0, 100), full as well", full, -2, () -> full.write(0, 0, 0, 100));
        full.setGuarantees(3, 15);
        Check.refused("write(3, 0, 0, 100), full and not allowed", full, -2, () -> full.write(3, 0, 0, 100));
    }

    private void writeNotAllowedSecond() {
        sentence(7, "NOT_ALLOWED if the write is not allowed (checked second)");
        for (int origin = 0; origin < 3; origin++) {
            int at = (origin + 2) % 3;
            Store store = store();
            store.write(0, origin, 0, 1);
            store.sync(origin, at);
            store.write(0, origin, 0, 2);
            store.read(1, origin, 0);
            store.setGuarantees(0, 8);
            store.setGuarantees(1, 4);
            Check.refused("write(0, ..) one write short", store, -3, () -> store.write(0, at, 0, 5));
            Check.refused("write(1, ..) one write short", store, -3, () -> store.write(1, at, 0, 5));
            store.sync(origin, at);
            Check.undoable("write(0, ..) with no write more than needed", store, 1, () -> store.write(0, at, 0, 5));
            Check.undoable("write(1, ..) with no write more than needed", store, 2, () -> store.write(1, at, 0, 5));
        }
        Store full = store();
        Check.fill(full);
        full.setGuarantees(3, 8);
        Check.refused("write(3, 1, 0, 0), full as well", full, -3, () -> full.write(3, 1, 0, 0));
        full.setGuarantees(3, 7);
        Check.refused("write(3, 1, 0, 0), allowed but full", full, -4, () -> full.write(3, 1, 0, 0));
    }

    private void writeFull() {
        sentence(7, "FULL if the store has 60 writes.");
        Store store = store();
        for (int i = 1; i <= 59; i++) {
            store.write(0, 0, 0, 1);
        }
        Check.due("write 60, at another replica", 1, store.write(1, 2, 3, 60));
        for (int replica = 0; replica < 3; replica++) {
            int r = replica;
            Check.refused("write 61 at " + r, store, -4, () -> store.write(1, r, 0, 1));
        }
        store.sync(0, 2);
        store.sync(2, 1);
        Check.refused("write 61 after syncs", store, -4, () -> store.write(2, 1, 0, 1));
        Check.due("peek(2, 3) after refused writes", 60, store.peek(2, 3));
        store.undo();
        store.undo();
        Check.due("undo() of the 60th write", 1, store.undo());
        Check.due("write 60 again, where it was undone", 1, store.write(1, 1, 0, 1));
        Check.refused("write 61 again", store, -4, () -> store.write(1, 1, 0, 1));
    }

    private void syncUndoable() {
        sentence(8, "Synchronizes from one replica to another one. Undoable.");
        Store store = store();
        Check.undoable("sync(0, 1) of nothing, which changes nothing", store, 0, () -> store.sync(0, 1));
        store.write(0, 0, 0, 7);
        Check.undoable("sync(0, 1)", store, 1, () -> store.sync(0, 1));
        Check.undoable("sync(0, 1) again, which changes nothing", store, 0, () -> store.sync(0, 1));
        store.undo();
        store.undo();
        Check.due("count(1, 0) after undo()", 0, store.count(1, 0));
        Check.due("clock(1) after undo()", 0, store.clock(1));
        Check.refused("peek(1, 0) after undo()", store, -5, () -> store.peek(1, 0));
    }

    private void syncLearned() {
        sentence(8, "Returns the number of writes that were learned");
        for (int from = 0; from < 3; from++) {
            for (int to = 0; to < 3; to++) {
                if (from != to) {
                    Store store = store();
                    Check.due("sync of an empty store", 0, store.sync(from, to));
                    store.write(0, from, 0, 1);
                    Check.due("sync back, where there is nothing to learn", 0, store.sync(to, from));
                    Check.due("sync of one write", 1, store.sync(from, to));
                    for (int i = 2; i <= 60; i++) {
                        store.write(0, from, 0, 1);
                    }
                    Check.due("sync of all but one of 60 writes", 59, store.sync(from, to));
                    Check.due("sync again", 0, store.sync(from, to));
                    Check.due("sync of 60 writes to the third replica", 60, store.sync(to, 3 - from - to));
                }
            }
        }
    }

    private void syncOutOfRange() {
        sentence(8, "OUT_OF_RANGE if an argument is out of range or from equals to.");
        everyMix("sync", (store, a) -> store.sync(a[0], a[1]), a -> a[0] == a[1], 3, 3);
        Store store = store();
        store.write(0, 1, 0, 1);
        for (int replica = 0; replica < 3; replica++) {
            int same = replica;
            Check.refused("sync(" + same + ", " + same + ")", store, -2, () -> store.sync(same, same));
        }
    }
}
