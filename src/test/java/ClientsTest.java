/** Promises 1 to 5: a new object, setGuarantees, forget, readCount and writeCount. */
public final class ClientsTest {
    public static void main(String[] args) {
        newObject();
        setGuarantees();
        setGuaranteesOutOfRange();
        setGuaranteesKeepsVectors();
        forget();
        forgetKeepsGuarantees();
        forgetOutOfRange();
        readCounts();
        writeCounts();
        countsOutOfRange();
        objectsAreApart();
        Check.end();
    }

    private static void newObject() {
        Store store = new Store();
        Check.due("new: writes()", 0, store.writes());
        Check.due("new: clearText()", 0, store.clearText());
        for (int replica = 0; replica < 3; replica++) {
            Check.due("new: clock", 0, store.clock(replica));
            for (int origin = 0; origin < 3; origin++) {
                Check.due("new: count", 0, store.count(replica, origin));
            }
            for (int key = 0; key < 4; key++) {
                Check.due("new: peek", -5, store.peek(replica, key));
            }
        }
        for (int client = 0; client < 4; client++) {
            for (int origin = 0; origin < 3; origin++) {
                Check.due("new: readCount", 0, store.readCount(client, origin));
                Check.due("new: writeCount", 0, store.writeCount(client, origin));
            }
            Check.due("new: breaches", 0, store.breaches(client));
        }
        Check.due("new: undo()", -6, store.undo());
        for (int client = 0; client < 4; client++) {
            Check.due("new: setGuarantees", 0, store.setGuarantees(client, 0));
        }
    }

    private static void setGuarantees() {
        Store store = new Store();
        for (int client = 0; client < 4; client++) {
            int previous = 0;
            for (int set = 15; set >= 0; set--) {
                int chosen = client;
                int wanted = set;
                Check.undoable("setGuarantees(" + client + ", " + set + ")", store, previous,
                        () -> store.setGuarantees(chosen, wanted));
                previous = set;
            }
            store.setGuarantees(client, client + 5);
        }
        for (int client = 0; client < 4; client++) {
            int chosen = client;
            Check.undoable("setGuarantees keeps to its client", store, client + 5,
                    () -> store.setGuarantees(chosen, chosen + 5));
        }
    }

    private static void setGuaranteesOutOfRange() {
        Store store = new Store();
        store.setGuarantees(1, 9);
        for (int bad : Check.outside(4)) {
            Check.refused("setGuarantees(" + bad + ", 0)", store, -2, () -> store.setGuarantees(bad, 0));
        }
        for (int bad : Check.outside(16)) {
            Check.refused("setGuarantees(1, " + bad + ")", store, -2, () -> store.setGuarantees(1, bad));
        }
        Check.due("setGuarantees(1, 0) after errors", 9, store.setGuarantees(1, 0));
    }

    private static void setGuaranteesKeepsVectors() {
        Store store = new Store();
        store.write(2, 0, 0, 1);
        store.write(2, 0, 0, 2);
        store.read(2, 0, 0);
        store.setGuarantees(2, 15);
        Check.due("readCount(2, 0) after setGuarantees", 2, store.readCount(2, 0));
        Check.due("writeCount(2, 0) after setGuarantees", 2, store.writeCount(2, 0));
    }

    private static void forget() {
        Store store = new Store();
        Check.undoable("forget(0) of a new object", store, 0, () -> store.forget(0));
        store.write(0, 0, 0, 1);
        store.write(0, 0, 0, 2);
        store.write(0, 1, 0, 3);
        store.write(1, 2, 0, 4);
        store.sync(1, 0);
        store.read(0, 0, 0);
        store.read(0, 2, 0);
        store.read(1, 2, 0);
        Check.undoable("forget(0)", store, 7, () -> store.forget(0));
        for (int origin = 0; origin < 3; origin++) {
            Check.due("readCount(0, " + origin + ") after forget", 0, store.readCount(0, origin));
            Check.due("writeCount(0, " + origin + ") after forget", 0, store.writeCount(0, origin));
        }
        Check.due("forget(0) again", 0, store.forget(0));
        Check.due("readCount(1, 2) of another client", 1, store.readCount(1, 2));
        Check.due("writeCount(1, 2) of another client", 1, store.writeCount(1, 2));
        Check.due("writes() after forget", 4, store.writes());
        Check.due("forget(1)", 2, store.forget(1));
    }

    private static void forgetKeepsGuarantees() {
        Store store = new Store();
        store.setGuarantees(3, 13);
        store.forget(3);
        Check.due("setGuarantees after forget", 13, store.setGuarantees(3, 0));
    }

    private static void forgetOutOfRange() {
        Store store = new Store();
        store.write(0, 0, 0, 1);
        for (int bad : Check.outside(4)) {
            Check.refused("forget(" + bad + ")", store, -2, () -> store.forget(bad));
        }
    }

    private static void readCounts() {
        Store store = new Store();
        for (int replica = 0; replica < 3; replica++) {
            for (int i = 0; i <= replica; i++) {
                store.write(0, replica, 0, 1);
            }
        }
        store.read(3, 2, 0);
        store.read(3, 0, 0);
        store.read(1, 1, 3);
        int[][] wanted = {{0, 0, 0}, {0, 2, 0}, {0, 0, 0}, {1, 0, 3}};
        for (int client = 0; client < 4; client++) {
            for (int origin = 0; origin < 3; origin++) {
                int c = client;
                int o = origin;
                Check.plain("readCount(" + c + ", " + o + ")", store, wanted[c][o], () -> store.readCount(c, o));
            }
        }
    }

    private static void writeCounts() {
        Store store = new Store();
        store.write(1, 0, 0, 1);
        store.write(1, 0, 1, 1);
        store.write(2, 0, 1, 1);
        store.write(2, 2, 1, 1);
        store.write(3, 1, 1, 1);
        int[][] wanted = {{0, 0, 0}, {2, 0, 0}, {3, 0, 1}, {0, 1, 0}};
        for (int client = 0; client < 4; client++) {
            for (int origin = 0; origin < 3; origin++) {
                int c = client;
                int o = origin;
                Check.plain("writeCount(" + c + ", " + o + ")", store, wanted[c][o], () -> store.writeCount(c, o));
            }
        }
    }

    private static void countsOutOfRange() {
        Store store = new Store();
        for (int bad : Check.outside(4)) {
            Check.refused("readCount(" + bad + ", 0)", store, -2, () -> store.readCount(bad, 0));
            Check.refused("writeCount(" + bad + ", 0)", store, -2, () -> store.writeCount(bad, 0));
        }
        for (int bad : Check.outside(3)) {
            Check.refused("readCount(0, " + bad + ")", store, -2, () -> store.readCount(0, bad));
            Check.refused("writeCount(0, " + bad + ")", store, -2, () -> store.writeCount(0, bad));
        }
    }

    private static void objectsAreApart() {
        Store one = new Store();
        Store other = new Store();
        long before = other.digest();
        one.write(0, 0, 0, 1);
        one.append(102);
        one.undo();
        one.undo();
        one.setGuarantees(0, 5);
        Check.due("digest() of another object", before, other.digest());
    }
}
