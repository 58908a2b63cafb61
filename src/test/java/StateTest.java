/** Promises 22 to 25: undo, errorCount, writes and digest. */
public final class StateTest {
    public static void main(String[] args) {
        undoes();
        undoKeepsFour();
        undoRestoresEverything();
        undoLeavesErrorsAndText();
        undoneWritesGiveWay();
        failedCallsSaveNothing();
        queriesSaveNothing();
        errorCounts();
        errorCountOutOfRange();
        writes();
        digestOfNewObject();
        digestOfEveryPart();
        Check.end();
    }

    private static void undoes() {
        Store store = new Store();
        Check.refused("undo() of a new object", store, -6, () -> store.undo());
        store.write(0, 0, 0, 1);
        store.setGuarantees(0, 3);
        Check.due("undo() of setGuarantees", 1, store.undo());
        Check.due("undo() of write", 0, store.undo());
        Check.refused("undo() of nothing", store, -6, () -> store.undo());
        Check.due("setGuarantees(0, 0)", 0, store.setGuarantees(0, 0));
        Check.due("undo() of what changed nothing", 0, store.undo());
    }

    private static void undoKeepsFour() {
        Store store = new Store();
        for (int i = 1; i <= 11; i++) {
            store.write(0, 0, 0, i);
        }
        for (int i = 3; i >= 0; i--) {
            Check.due("undo()", i, store.undo());
            Check.due("peek(0, 0) after undo()", 7 + i, store.peek(0, 0));
        }
        Check.refused("undo() of a dropped state", store, -6, () -> store.undo());
        store.write(0, 0, 0, 50);
        store.write(0, 0, 0, 51);
        Check.due("undo()", 1, store.undo());
        Check.due("peek(0, 0)", 50, store.peek(0, 0));
        store.write(0, 0, 0, 52);
        store.write(0, 0, 0, 53);
        store.write(0, 0, 0, 54);
        store.write(0, 0, 0, 55);
        for (int i = 3; i >= 0; i--) {
            Check.due("undo() once more", i, store.undo());
        }
        Check.due("peek(0, 0) at the oldest saved state", 50, store.peek(0, 0));
    }

    private static void undoRestoresEverything() {
        Store store = new Store();
        store.setGuarantees(0, 5);
        store.write(0, 0, 0, 1);
        store.write(1, 1, 0, 1);
        store.read(1, 0, 0);
        store.sync(1, 2);
        long digest = store.digest();
        store.setGuarantees(0, 9);
        store.write(1, 2, 0, 9);
        store.read(1, 2, 0);
        store.sync(2, 0);
        store.undo();
        store.undo();
        store.undo();
        store.undo();
        Check.due("digest() after four undos, with no state left", digest - 4, store.digest());
    }

    private static void undoLeavesErrorsAndText() {
        Store store = new Store();
        store.write(0, 0, 0, 1);
        store.peek(1, 1);
        Check.type(store, "f0;");
        store.undo();
        Check.due("errorCount(-5) after undo()", 1, store.errorCount(-5));
        Check.due("execute() after undo()", 1, store.execute());
        Check.due("clearText() after undo()", 3, store.clearText());
    }

    private static void undoneWritesGiveWay() {
        Store store = new Store();
        store.write(0, 0, 0, 1);
        store.write(0, 0, 1, 2);
        store.undo();
        Check.due("write after undo() takes the sequence number again", 2, store.write(1, 0, 2, 3));
        Check.due("peek(0, 1) of the undone write", -5, store.peek(0, 1));
        Check.due("peek(0, 2)", 3, store.peek(0, 2));
        Check.due("clock(0)", 2, store.clock(0));
        Check.due("sync(0, 1)", 2, store.sync(0, 1));
        Check.due("peek(1, 1)", -5, store.peek(1, 1));
    }

    private static void failedCallsSaveNothing() {
        Store store = new Store();
        store.setGuarantees(9, 0);
        store.forget(9);
        store.read(9, 0, 0);
        store.write(9, 0, 0, 0);
        store.sync(0, 0);
        Check.due("undo() after errors", -6, store.undo());
        store.write(0, 0, 0, 1);
        store.setGuarantees(0, 15);
        store.read(0, 1, 0);
        store.write(0, 1, 0, 1);
        Check.due("undo() of setGuarantees before refusals", 1, store.undo());
        Check.due("read(0, 1, 0) without requests", 100, store.read(0, 1, 0));
    }

    private static void queriesSaveNothing() {
        Store store = new Store();
        store.readCount(0, 0);
        store.writeCount(0, 0);
        store.readBreaches(0, 0);
        store.writeBreaches(0, 0);
        store.readableReplica(0);
        store.writableReplica(0);
        store.syncsForRead(0, 0);
        store.count(0, 0);
        store.clock(0);
        store.peek(0, 0);
        store.compare(0, 1);
        store.breaches(0);
        store.append(32);
        store.clearText();
        store.execute();
        store.errorCount(-2);
        store.writes();
        store.digest();
        Check.due("undo() after queries", -6, store.undo());
    }

    private static void errorCounts() {
        Store store = new Store();
        Check.fill(store);
        store.setGuarantees(3, 8);
        for (int i = 0; i < 2; i++) {
            store.clock(3);
        }
        for (int i = 0; i < 3; i++) {
            store.write(3, 0, 0, 0);
        }
        for (int i = 0; i < 4; i++) {
            store.write(0, 0, 0, 0);
        }
        for (int i = 0; i < 4; i++) {
            store.undo();
        }
        for (int i = 0; i < 6; i++) {
            store.undo();
        }
        Store empty = new Store();
        for (int i = 0; i < 5; i++) {
            empty.peek(0, 0);
        }
        int[] wanted = {6, 0, 4, 3, 2};
        for (int code = -6; code <= -2; code++) {
            int c = code;
            Check.plain("errorCount(" + c + ")", store, wanted[c + 6], () -> store.errorCount(c));
        }
        Check.plain("errorCount(-5)", empty, 5, () -> empty.errorCount(-5));
        store.setGuarantees(0, 9);
        store.write(0, 1, 0, 0);
        store.readableReplica(0);
        Check.due("errorCount(-3) after NONE or a replica", 3, store.errorCount(-3));
    }

    private static void errorCountOutOfRange() {
        Store store = new Store();
        int[] codes = {-1, 0, 1, 2, 6, -7, -8, -100, Integer.MIN_VALUE, Integer.MAX_VALUE};
        for (int code : codes) {
            Check.refused("errorCount(" + code + ")", store, -2, () -> store.errorCount(code));
        }
        Check.due("errorCount(-2) after wrong codes", codes.length, store.errorCount(-2));
    }

    private static void writes() {
        Store store = new Store();
        Check.plain("writes() of a new object", store, 0, () -> store.writes());
        store.write(0, 0, 0, 1);
        store.write(0, 0, 0, 1);
        store.write(0, 1, 0, 1);
        store.sync(0, 1);
        Check.plain("writes() after a sync", store, 3, () -> store.writes());
        store.write(4, 0, 0, 1);
        Check.plain("writes() after an error", store, 3, () -> store.writes());
        store.undo();
        store.undo();
        Check.plain("writes() after undo()", store, 2, () -> store.writes());
    }

    private static void digestOfNewObject() {
        long hash = 2647;
        for (int i = 0; i < 64; i++) {
            boolean isKey = i >= 6 && i < 30 && (i - 6) % 8 >= 4;
            hash = 31 * hash + (isKey ? 100 : 0);
        }
        Check.due("digest() of a new object", hash, new Store().digest());
    }

    private static void digestOfEveryPart() {
        Store store = new Store();
        store.setGuarantees(1, 6);
        store.write(0, 0, 2, 33);
        store.write(0, 2, 3, 44);
        store.write(1, 2, 0, 55);
        store.sync(2, 1);
        store.read(0, 1, 3);
        store.read(1, 2, 3);
        store.read(1, 0, 0);
        store.setGuarantees(3, 15);
        store.undo();
        store.clock(5);
        store.clock(5);
        store.peek(0, 0);
        store.append(1);
        store.append(2);
        int[] values = {
            2, 1, 0, 1, 0,
            3,
            1, 0, 0, 1, 100, 100, 33, 100,
            0, 0, 2, 2, 55, 100, 100, 44,
            0, 0, 2, 2, 55, 100, 100, 44,
            0, 0, 0, 2, 1, 0, 1,
            6, 0, 0, 2, 0, 0, 2,
            0, 0, 0, 0, 0, 0, 0,
            0, 0, 0, 0, 0, 0, 0,
            1, 0, 0, 1,
            2,
            3,
        };
        long hash = 2647;
        for (int value : values) {
            hash = 31 * hash + value;
        }
        Check.due("digest() of a used object", hash, store.digest());
    }
}
