import java.util.function.IntSupplier;

/** Counts the answers that are not the due ones, and ends a test with the exit code for them. */
final class Check {
    /** The digest is made of this many values, the five error counters first. */
    private static final int DIGEST_VALUES = 64;

    private static int wrong = 0;
    private static String heading = "";

    private Check() {
    }

    /** Stands before every wrong answer from here on. */
    static void heading(String words) {
        heading = words;
    }

    static void due(String what, long want, long got) {
        if (want != got) {
            wrong++;
            System.out.println(heading + what + " answered " + got + ", due is " + want);
        }
    }

    static void holds(String what, boolean condition) {
        if (!condition) {
            wrong++;
            System.out.println(heading + what + " does not hold");
        }
    }

    /** The call must answer the error code, count it once, and change nothing else. */
    static void refused(String what, Store store, int code, IntSupplier call) {
        long before = store.digest();
        int counted = store.errorCount(code);
        due(what, code, call.getAsInt());
        due("errorCount(" + code + ") after " + what, counted + 1, store.errorCount(code));
        long step = 1;
        for (int place = -2 - code; place < DIGEST_VALUES - 1; place++) {
            step *= 31;
        }
        due("digest() after " + what, before + step, store.digest());
    }

    /** The call must answer what is due and leave every counter and the whole state alone. */
    static void plain(String what, Store store, int want, IntSupplier call) {
        long before = store.digest();
        due(what, want, call.getAsInt());
        due("digest() after " + what, before, store.digest());
    }

    /** The call must succeed and save the state from before it; the call stands again at the end. */
    static void undoable(String what, Store store, int want, IntSupplier call) {
        long before = store.digest();
        due(what, want, call.getAsInt());
        long after = store.digest();
        int remaining = store.undo();
        holds("undo() after " + what + " finds a state", remaining >= 0);
        long back = store.digest();
        // If four states were saved before, the oldest is gone, and the digest ends with their number.
        holds("the state before " + what + " is back", back == before || remaining == 3 && back == before - 1);
        due(what + " after undo()", want, call.getAsInt());
        due("digest() after " + what + ", undo() and the call again", after, store.digest());
    }

    /** Numbers that are not in the range from 0 to the bound less one. */
    static int[] outside(int bound) {
        return new int[] {-1, bound, -2, -bound, bound + 1, 2 * bound, 256, 65536,
            Integer.MIN_VALUE, Integer.MIN_VALUE + 1, Integer.MAX_VALUE};
    }

    /** Appends a whole text behind an emptied command text and executes it. */
    static int run(Store store, String commands) {
        type(store, commands);
        return store.execute();
    }

    static void type(Store store, String commands) {
        store.clearText();
        for (int i = 0; i < commands.length(); i++) {
            store.append(commands.charAt(i));
        }
    }

    /** Sixty writes of client 3, on all replicas in turn, so that no room is left. */
    static void fill(Store store) {
        for (int i = 0; i < 60; i++) {
            store.write(3, i % 3, i % 4, i);
        }
    }

    static void end() {
        System.out.println(wrong == 0 ? "all answers are as due" : wrong + " answers are not as due");
        if (wrong != 0) {
            System.exit(1);
        }
    }
}
