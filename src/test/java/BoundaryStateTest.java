import java.util.ArrayList;
import java.util.List;

/** The boundary cases of promises 22 to 25, a sentence each. */
public final class BoundaryStateTest extends Boundary {
    public static void main(String[] args) {
        new BoundaryStateTest().runAtEveryAge();
    }

    @Override
    void sentences() {
        undoRestores();
        undoRemaining();
        undoNothingSaved();
        errorCodes();
        errorCounters();
        errorCountOutOfRange();
        writesRange();
        digestOfNewObject();
        digestOfErrors();
        digestOfWrites();
        digestOfReplicas();
        digestOfAbsentKey();
        digestOfClients();
        digestOfBreaches();
        digestOfTextLength();
        digestOfSavedStates();
        digestOverflow();
    }

    /** Saves and undoes in many turns, so that the states go round; a list of the digests tells what is due. */
    private void undoRestores() {
        sentence(22, "Restores the most recently saved state and removes it from the saved states.");
        Store store = store();
        List<Long> saved = new ArrayList<>();
        int[] saves = {1, 2, 4, 5, 3, 6, 1, 9, 2, 4, 7};
        int[] undos = {1, 1, 2, 4, 0, 3, 2, 5, 1, 1, 6};
        int value = 0;
        for (int turn = 0; turn < saves.length; turn++) {
            for (int i = 0; i < saves[turn]; i++) {
                saved.add(store.digest() - Math.min(saved.size(), 4));
                store.write(i % 4, i % 3, i % 4, value++);
                if (saved.size() > 4) {
                    saved.remove(0);
                }
            }
            for (int i = 0; i < undos[turn]; i++) {
                if (saved.isEmpty()) {
                    Check.refused("undo() of nothing", store, -6, () -> store.undo());
                } else {
                    long due = saved.remove(saved.size() - 1);
                    Check.due("undo() in turn " + turn, saved.size(), store.undo());
                    Check.due("digest() after it", due + saved.size(), store.digest());
                }
            }
        }
    }

    private void undoRemaining() {
        sentence(22, "Returns the number of saved states that remain");
        for (int calls = 1; calls <= 11; calls++) {
            Store store = store();
            for (int i = 0; i < calls; i++) {
                store.setGuarantees(0, i % 2 + 1);
            }
            for (int left = Math.min(calls, 4) - 1; left >= 0; left--) {
                Check.due("undo() after " + calls + " calls", left, store.undo());
            }
            Check.due("undo() of the rest after " + calls + " calls", -6, store.undo());
        }
    }

    private void undoNothingSaved() {
        sentence(22, "NOTHING_SAVED if there is none.");
        Store store = store();
        Check.refused("undo() of a new object", store, -6, () -> store.undo());
        Check.refused("undo() again", store, -6, () -> store.undo());
        store.write(0, 0, 0, 1);
        Check.due("undo() of the write", 0, store.undo());
        Check.refused("undo() of what is undone", store, -6, () -> store.undo());
        Check.due("writes(), which no refused undo() changes", 0, store.writes());
        for (int i = 1; i <= 5; i++) {
            store.write(0, 0, 0, i);
        }
        for (int i = 0; i < 4; i++) {
            store.undo();
        }
        Check.refused("undo() of the state that was dropped", store, -6, () -> store.undo());
        Check.due("writes(), of which the first one stays", 1, store.writes());
        store.setGuarantees(0, 0);
        Check.due("undo() of what changed nothing", 0, store.undo());
    }

    private void errorCodes() {
        sentence(23, "`code`: an error code, -6 to -2");
        Store store = store();
        for (int code = -6; code <= -2; code++) {
            int c = code;
            Check.plain("errorCount(" + c + ")", store, 0, () -> store.errorCount(c));
        }
        Check.refused("errorCount(-7)", store, -2, () -> store.errorCount(-7));
        Check.refused("errorCount(-1), of NONE", store, -2, () -> store.errorCount(-1));
    }

    private void errorCounters() {
        sentence(23, "Returns the counter of the code");
        Store store = store();
        Check.fill(store);
        store.setGuarantees(3, 8);
        for (int i = 1; i <= 30; i++) {
            store.clock(3);
        }
        for (int i = 1; i <= 20; i++) {
            store.write(3, 0, 0, 0);
        }
        for (int i = 1; i <= 10; i++) {
            store.write(0, 0, 0, 0);
        }
        for (int i = 1; i <= 4 + 40; i++) {
            store.undo();
        }
        int[] wanted = {40, 0, 10, 20, 30};
        for (int code = -6; code <= -2; code++) {
            int c = code;
            Check.plain("errorCount(" + c + ")", store, wanted[c + 6], () -> store.errorCount(c));
            Check.plain("errorCount(" + c + ") again", store, wanted[c + 6], () -> store.errorCount(c));
        }
        Store empty = store();
        for (int i = 1; i <= 200; i++) {
            empty.peek(0, 0);
        }
        Check.plain("errorCount(-5)", empty, 200, () -> empty.errorCount(-5));
        Check.plain("errorCount(-4)", empty, 0, () -> empty.errorCount(-4));
    }

    private void errorCountOutOfRange() {
        sentence(23, "OUT_OF_RANGE if code is out of range (this increments the counter of OUT_OF_RANGE).");
        Store store = store();
        int[] codes = {-7, -1, 0, 1, 2, 3, 4, 5, 6, -8, -10, -1000, -258, -65538,
            Integer.MIN_VALUE, Integer.MIN_VALUE + 1, Integer.MAX_VALUE};
        for (int code : codes) {
            Check.refused("errorCount(" + code + ")", store, -2, () -> store.errorCount(code));
        }
        Check.due("errorCount(-2)", codes.length, store.errorCount(-2));
    }

    private void writesRange() {
        sentence(24, "Returns the number of writes, 0 to 60.");
        Store store = store();
        Check.plain("writes() of a new object", store, 0, () -> store.writes());
        for (int i = 1; i <= 60; i++) {
            store.write(i % 4, i % 3, i % 4, i);
            Check.due("writes()", i, store.writes());
        }
        store.write(0, 0, 0, 0);
        Check.plain("writes() after the 61st was refused", store, 60, () -> store.writes());
        store.sync(0, 1);
        store.sync(1, 2);
        Check.plain("writes() after syncs", store, 60, () -> store.writes());
        store.undo();
        store.undo();
        Check.due("undo() of the 60th write", 1, store.undo());
        Check.plain("writes() after undo()", store, 59, () -> store.writes());
        store.write(0, 0, 4, 0);
        Check.plain("writes() after a write out of range", store, 59, () -> store.writes());
    }

    private static long hash(int[] values) {
        long hash = 2647;
        for (int value : values) {
            hash = 31 * hash + value;
        }
        return hash;
    }

    /** The values of a new object in their order: only the keys, which are absent, have another than 0. */
    private static int[] newValues() {
        int[] values = new int[64];
        for (int replica = 0; replica < 3; replica++) {
            for (int key = 0; key < 4; key++) {
                values[6 + 8 * replica + 4 + key] = 100;
            }
        }
        return values;
    }

    private void digestOfNewObject() {
        sentence(25, "Start with h = 2647 and, for each of the following values v, set h = 31 * h + v:");
        Store store = store();
        Check.due("digest() of a new object", hash(newValues()), store.digest());
        Check.due("digest() again", hash(newValues()), store.digest());
    }

    private void digestOfErrors() {
        sentence(25, "the counters of the codes -2, -3, -4, -5, -6;");
        Store store = store();
        int[] values = newValues();
        store.clock(3);
        store.peek(0, 0);
        store.peek(0, 0);
        store.undo();
        store.undo();
        store.undo();
        values[0] = 1;
        values[3] = 2;
        values[4] = 3;
        Check.due("digest() after errors", hash(values), store.digest());
    }

    private void digestOfWrites() {
        sentence(25, "the number of writes;");
        Store store = store();
        for (int i = 1; i <= 60; i++) {
            store.write(0, 1, 2, 0);
            if (i == 1 || i == 59 || i == 60) {
                int[] values = newValues();
                values[5] = i;
                values[14 + 1] = i;
                values[14 + 3] = i;
                values[14 + 4 + 2] = 0;
                values[30 + 4 + 1] = i;
                values[63] = Math.min(i, 4);
                Check.due("digest() of " + i + " writes", hash(values), store.digest());
            }
        }
    }

    private void digestOfReplicas() {
        sentence(25, "for each replica its three counts, its clock and,");
        Store store = store();
        for (int replica = 0; replica < 3; replica++) {
            for (int i = 0; i < 5 - replica; i++) {
                store.write(0, replica, replica, 90 + i);
            }
        }
        store.sync(0, 2);
        store.sync(1, 0);
        store.forget(0);
        int[] values = newValues();
        int[] replicas = {
            5, 4, 0, 5, 94, 93, 100, 100,
            0, 4, 0, 4, 100, 93, 100, 100,
            5, 0, 3, 5, 94, 100, 92, 100,
        };
        System.arraycopy(replicas, 0, values, 6, replicas.length);
        values[5] = 12;
        // Each write at 1 and at 2 misses the writes at 0.
        values[61] = 7;
        values[63] = 4;
        Check.due("digest() with counts and clocks", hash(values), store.digest());
    }

    private void digestOfClients() {
        sentence(25, "for each client its guarantees, its three read counts and its three write counts;");
        Store store = store();
        int[] values = newValues();
        store.write(0, 0, 3, 1);
        store.write(1, 0, 3, 2);
        store.write(3, 1, 3, 3);
        store.write(2, 2, 3, 4);
        store.sync(2, 1);
        store.read(3, 0, 0);
        store.read(2, 1, 0);
        for (int client = 0; client < 4; client++) {
            store.setGuarantees(client, 15 - client);
        }
        int[] replicas = {
            2, 0, 0, 2, 100, 100, 100, 2,
            0, 1, 1, 1, 100, 100, 100, 4,
            0, 0, 1, 1, 100, 100, 100, 4,
        };
        int[] clients = {
            15, 0, 0, 0, 1, 0, 0,
            14, 0, 0, 0, 2, 0, 0,
            13, 0, 1, 1, 0, 0, 1,
            12, 2, 0, 0, 0, 1, 0,
        };
        System.arraycopy(replicas, 0, values, 6, replicas.length);
        System.arraycopy(clients, 0, values, 30, clients.length);
        values[5] = 4;
        // Client 3 wrote at 1 and read at 0, which knows nothing of that.
        values[58] = 1;
        values[63] = 4;
        Check.due("digest() of four clients", hash(values), store.digest());
    }

    private void digestOfBreaches() {
        sentence(25, "the four numbers of breaches;");
        Store store = store();
        store.write(0, 0, 0, 0);
        store.read(1, 0, 0);
        for (int i = 0; i < 4; i++) {
            store.read(0, 2, 0);
        }
        for (int i = 0; i < 3; i++) {
            store.read(1, 2, 0);
        }
        for (int i = 0; i < 2; i++) {
            store.write(1, 1, 0, 0);
        }
        store.write(0, 1, 0, 0);
        store.forget(0);
        store.forget(1);
        int[] values = newValues();
        int[] replicas = {
            1, 0, 0, 1, 0, 100, 100, 100,
            0, 3, 0, 3, 0, 100, 100, 100,
            0, 0, 0, 0, 100, 100, 100, 100,
        };
        int[] breaches = {4, 3, 2, 1};
        System.arraycopy(replicas, 0, values, 6, replicas.length);
        System.arraycopy(breaches, 0, values, 58, breaches.length);
        values[5] = 4;
        values[63] = 4;
        Check.due("digest() with breaches", hash(values), store.digest());
    }

    private void digestOfAbsentKey() {
        sentence(25, "for each key, its value or 100 if the key is absent;");
        for (int replica = 0; replica < 3; replica++) {
            for (int key = 0; key < 4; key++) {
                Store store = store();
                store.write(0, replica, key, 0);
                store.forget(0);
                int[] values = newValues();
                values[5] = 1;
                values[6 + 8 * replica + replica] = 1;
                values[6 + 8 * replica + 3] = 1;
                values[6 + 8 * replica + 4 + key] = 0;
                values[63] = 2;
                Check.due("digest() with value 0 of key " + key + " at " + replica, hash(values), store.digest());
                Check.due("errorCount(-5), which digest() leaves alone", 0, store.errorCount(-5));
            }
        }
    }

    private void digestOfTextLength() {
        sentence(25, "the length of the command text;");
        Store store = store();
        int[] values = newValues();
        for (int i = 1; i <= 100; i++) {
            store.append(i);
            values[62] = i;
            Check.due("digest() with " + i + " bytes", hash(values), store.digest());
        }
        store.clearText();
        Check.due("digest() of the emptied text", hash(newValues()), store.digest());
    }

    private void digestOfSavedStates() {
        sentence(25, "the number of saved states.");
        Store store = store();
        int[] values = newValues();
        for (int i = 1; i <= 12; i++) {
            store.forget(0);
            values[63] = Math.min(i, 4);
            Check.due("digest() after " + i + " saved states", hash(values), store.digest());
        }
        for (int i = 3; i >= 0; i--) {
            store.undo();
            values[63] = i;
            Check.due("digest() with " + i + " states left", hash(values), store.digest());
        }
    }

    /** A full store, a full text, four saved states: every number as great as it gets here. */
    private void digestOverflow() {
        sentence(25, "Returns the hash, with the overflow of long arithmetic ignored.");
        Store store = store();
        store.undo();
        Check.fill(store);
        store.write(0, 0, 0, 0);
        store.setGuarantees(3, 15);
        store.write(3, 0, 0, 0);
        Check.type(store, " ".repeat(100));
        int[] values = newValues();
        values[1] = 1;
        values[2] = 1;
        values[4] = 1;
        values[5] = 60;
        for (int replica = 0; replica < 3; replica++) {
            values[6 + 8 * replica + replica] = 20;
            values[6 + 8 * replica + 3] = 20;
        }
        for (int write = 0; write < 60; write++) {
            values[6 + 8 * (write % 3) + 4 + write % 4] = write;
        }
        values[30 + 7 * 3] = 15;
        for (int origin = 0; origin < 3; origin++) {
            values[30 + 7 * 3 + 4 + origin] = 20;
        }
        // Each write but the first misses the write before it.
        values[58 + 3] = 59;
        values[62] = 100;
        values[63] = 4;
        Check.due("digest() of a full store", hash(values), store.digest());
    }
}
