/** Counts the answers that are not the due ones, and ends a test with the exit code for them. */
final class Check {
    private static int wrong = 0;

    private Check() {
    }

    static void due(String what, long want, long got) {
        if (want != got) {
            wrong++;
            System.out.println(what + " answered " + got + ", due is " + want);
        }
    }

    static void holds(String what, boolean condition) {
        if (!condition) {
            wrong++;
            System.out.println(what + " does not hold");
        }
    }

    /** Appends a whole text behind an emptied command text and executes it. */
    static int run(ClientGuarantees store, String commands) {
        type(store, commands);
        return store.execute();
    }

    static void type(ClientGuarantees store, String commands) {
        store.clearText();
        for (int i = 0; i < commands.length(); i++) {
            store.append(commands.charAt(i));
        }
    }

    /** Sixty writes of client 3, on all replicas in turn, so that no room is left. */
    static void fill(ClientGuarantees store) {
        for (int i = 0; i < 60; i++) {
            store.write(3, i % 3, i % 4, i);
        }
    }

    static void end() {
        System.out.println(wrong == 0 ? "all answers are as due" : wrong + " answers are not as due");
        if (wrong != 0) {
            System.exit(1);
        }
    }
}
