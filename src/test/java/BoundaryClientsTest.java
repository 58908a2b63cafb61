/** The boundary cases of promises 1 to 5, a sentence each. */
public final class BoundaryClientsTest extends Boundary {
    public static void main(String[] args) {
        new BoundaryClientsTest().runAtEveryAge();
    }

    @Override
    void sentences() {
        newWithoutWrites();
        newClients();
        newText();
        guaranteesRange();
        guaranteesPrevious();
        guaranteesKeepVectors();
        guaranteesUndoable();
        guaranteesOutOfRange();
        forgetSetsToZero();
        forgetSum();
        forgetKeepsGuarantees();
        forgetUndoable();
        forgetOutOfRange();
        readCountEdges();
        readCountOutOfRange();
        writeCountEdges();
        writeCountOutOfRange();
    }

    private void newWithoutWrites() {
        sentence(1, "Creates a store without writes");
        Store store = store();
        Check.plain("writes()", store, 0, () -> store.writes());
        for (int replica = 0; replica < 3; replica++) {
            int r = replica;
            Check.plain("clock(" + r + ")", store, 0, () -> store.clock(r));
            for (int key = 0; key < 4; key++) {
                int k = key;
                Check.refused("peek(" + r + ", " + k + ")", store, -5, () -> store.peek(r, k));
            }
            for (int origin = 0; origin < 3; origin++) {
                int o = origin;
                Check.plain("count(" + r + ", " + o + ")", store, 0, () -> store.count(r, o));
                Check.plain("compare(" + r + ", " + o + ")", store, 0, () -> store.compare(r, o));
            }
        }
        Check.due("sync(0, 1)", 0, store.sync(0, 1));
        Check.due("sync(2, 0)", 0, store.sync(2, 0));
        Check.due("write(3, 2, 3, 0), the first one", 1, store.write(3, 2, 3, 0));
    }

    private void newClients() {
        sentence(1, "with the initial clients described above");
        Store store = store();
        for (int client = 0; client < 4; client++) {
            for (int origin = 0; origin < 3; origin++) {
                Check.due("readCount(" + client + ", " + origin + ")", 0, store.readCount(client, origin));
                Check.due("writeCount(" + client + ", " + origin + ")", 0, store.writeCount(client, origin));
                Check.due("readBreaches(" + client + ", " + origin + ")", 0, store.readBreaches(client, origin));
                Check.due("writeBreaches(" + client + ", " + origin + ")", 0, store.writeBreaches(client, origin));
            }
            Check.due("breaches(" + client + ")", 0, store.breaches(client));
            Check.due("forget(" + client + ")", 0, store.forget(client));
            Check.due("setGuarantees(" + client + ", 15)", 0, store.setGuarantees(client, 15));
        }
    }

    private void newText() {
        sentence(1, "and an empty command text.");
        Store store = store();
        Check.plain("execute()", store, -10, () -> store.execute());
        Check.plain("clearText()", store, 0, () -> store.clearText());
        Check.due("append(102), the first byte", 1, store.append(102));
        for (int code = -6; code <= -2; code++) {
            Check.due("errorCount(" + code + ")", 0, store.errorCount(code));
        }
        Check.refused("undo(), for no state is saved", store, -6, () -> store.undo());
    }

    private void guaranteesRange() {
        sentence(2, "`guarantees`: set of guarantees, 0 to 15");
        Store store = store();
        Check.undoable("setGuarantees(0, 15)", store, 0, () -> store.setGuarantees(0, 15));
        Check.refused("setGuarantees(0, 16)", store, -2, () -> store.setGuarantees(0, 16));
        Check.refused("setGuarantees(0, -1)", store, -2, () -> store.setGuarantees(0, -1));
        Check.undoable("setGuarantees(0, 0)", store, 15, () -> store.setGuarantees(0, 0));
        Check.undoable("setGuarantees(3, 15)", store, 0, () -> store.setGuarantees(3, 15));
        Check.undoable("setGuarantees(0, 1)", store, 0, () -> store.setGuarantees(0, 1));
    }

    private void guaranteesPrevious() {
        sentence(2, "Returns the previous set");
        for (int first = 0; first < 16; first++) {
            Store store = store();
            for (int second = 0; second < 16; second++) {
                store.setGuarantees(2, first);
                Check.due("setGuarantees(2, " + second + ")", first, store.setGuarantees(2, second));
                Check.due("setGuarantees(2, " + second + ") again", second, store.setGuarantees(2, second));
            }
            Check.due("setGuarantees(1, 0) of another client", 0, store.setGuarantees(1, 0));
        }
    }

    private void guaranteesKeepVectors() {
        sentence(2, "Its vectors stay as they are.");
        Store store = store();
        for (int origin = 0; origin < 3; origin++) {
            store.write(0, origin, 0, 1);
            store.read(0, origin, 0);
        }
        for (int set = 15; set >= 0; set -= 5) {
            store.setGuarantees(0, set);
            for (int origin = 0; origin < 3; origin++) {
                Check.due("readCount(0, " + origin + ") with " + set, 1, store.readCount(0, origin));
                Check.due("writeCount(0, " + origin + ") with " + set, 1, store.writeCount(0, origin));
            }
        }
    }

    private void guaranteesUndoable() {
        sentence(2, "Undoable.");
        Store store = store();
        Check.undoable("setGuarantees(3, 0), which changes nothing", store, 0, () -> store.setGuarantees(3, 0));
        Check.undoable("setGuarantees(3, 9)", store, 0, () -> store.setGuarantees(3, 9));
        Check.due("undo()", 1, store.undo());
        Check.due("setGuarantees(3, 9) after undo()", 0, store.setGuarantees(3, 9));
    }

    private void guaranteesOutOfRange() {
        sentence(2, "OUT_OF_RANGE if an argument is out of range.");
        everyMix("setGuarantees", (store, a) -> store.setGuarantees(a[0], a[1]), 4, 16);
        Store store = store();
        store.setGuarantees(1, 9);
        store.setGuarantees(1, 16);
        store.setGuarantees(1, -1);
        store.setGuarantees(4, 15);
        Check.due("setGuarantees(1, 0) after refused ones", 9, store.setGuarantees(1, 0));
        Check.due("setGuarantees(0, 0) after refused ones", 0, store.setGuarantees(0, 0));
    }

    private void forgetSetsToZero() {
        sentence(3, "Sets all counts of both vectors of a client to 0.");
        Store store = store();
        for (int origin = 0; origin < 3; origin++) {
            for (int client = 0; client < 4; client++) {
                store.write(client, origin, 0, 1);
                store.read(client, origin, 0);
            }
        }
        store.forget(2);
        for (int origin = 0; origin < 3; origin++) {
            Check.due("readCount(2, " + origin + ")", 0, store.readCount(2, origin));
            Check.due("writeCount(2, " + origin + ")", 0, store.writeCount(2, origin));
            Check.due("readCount(1, " + origin + ")", 2, store.readCount(1, origin));
            Check.due("writeCount(3, " + origin + ")", 4, store.writeCount(3, origin));
            Check.due("count(" + origin + ", " + origin + ")", 4, store.count(origin, origin));
        }
    }

    private void forgetSum() {
        sentence(3, "Returns the sum of all counts of both vectors before the call");
        Store store = store();
        Check.due("forget(3) where all counts are 0", 0, store.forget(3));
        Check.fill(store);
        for (int replica = 0; replica < 3; replica++) {
            store.read(3, replica, 0);
            store.read(0, replica, 0);
        }
        Check.due("forget(0) after reads of 60 writes", 60, store.forget(0));
        Check.due("forget(3) after 60 writes and reads of them", 120, store.forget(3));
        Check.due("forget(3) again", 0, store.forget(3));
    }

    private void forgetKeepsGuarantees() {
        sentence(3, "Its requested guarantees stay as they are.");
        Store store = store();
        for (int set = 0; set < 16; set++) {
            store.setGuarantees(1, set);
            store.forget(1);
            Check.due("setGuarantees(1, " + set + ") after forget(1)", set, store.setGuarantees(1, set));
        }
    }

    private void forgetUndoable() {
        sentence(3, "Undoable.");
        Store store = store();
        Check.undoable("forget(0), which changes nothing", store, 0, () -> store.forget(0));
        store.write(0, 1, 0, 1);
        store.read(0, 1, 0);
        Check.undoable("forget(0)", store, 2, () -> store.forget(0));
        store.undo();
        Check.due("readCount(0, 1) after undo()", 1, store.readCount(0, 1));
        Check.due("writeCount(0, 1) after undo()", 1, store.writeCount(0, 1));
    }

    private void forgetOutOfRange() {
        sentence(3, "OUT_OF_RANGE if there is no such client.");
        everyMix("forget", (store, a) -> store.forget(a[0]), 4);
    }

    private void readCountEdges() {
        sentence(4, "Returns the count;");
        for (int origin = 0; origin < 3; origin++) {
            int o = origin;
            Store store = store();
            for (int i = 0; i < 60; i++) {
                store.write(0, origin, 0, 1);
            }
            Check.plain("readCount before a read", store, 0, () -> store.readCount(3, o));
            store.read(3, origin, 0);
            Check.plain("readCount after a read of 60 writes", store, 60, () -> store.readCount(3, o));
            Check.due("readCount of another origin", 0, store.readCount(3, (origin + 1) % 3));
            Check.due("readCount of another client", 0, store.readCount(0, origin));
        }
    }

    private void readCountOutOfRange() {
        sentence(4, "OUT_OF_RANGE if an argument is out of range.");
        everyMix("readCount", (store, a) -> store.readCount(a[0], a[1]), 4, 3);
    }

    private void writeCountEdges() {
        sentence(5, "Returns the count;");
        for (int origin = 0; origin < 3; origin++) {
            int o = origin;
            Store store = store();
            for (int i = 0; i < 59; i++) {
                store.write(0, origin, 0, 1);
            }
            Check.plain("writeCount before a write", store, 0, () -> store.writeCount(3, o));
            store.write(3, origin, 0, 1);
            Check.plain("writeCount after the 60th write", store, 60, () -> store.writeCount(3, o));
            store.write(3, origin, 0, 1);
            Check.plain("writeCount after a refused write", store, 60, () -> store.writeCount(3, o));
            Check.due("writeCount of another origin", 0, store.writeCount(3, (origin + 1) % 3));
            Check.due("writeCount of another client", 59, store.writeCount(0, origin));
        }
    }

    private void writeCountOutOfRange() {
        sentence(5, "OUT_OF_RANGE if an argument is out of range.");
        everyMix("writeCount", (store, a) -> store.writeCount(a[0], a[1]), 4, 3);
    }
}
