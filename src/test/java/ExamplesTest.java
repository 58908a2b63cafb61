/** The five examples of the document, each on a new object, and the constants. */
public final class ExamplesTest {
    public static void main(String[] args) {
        allGuarantees();
        equalTimestamps();
        breachOfWhatWasNotRequested();
        stoppedExecution();
        errors();
        constants();
        Check.end();
    }

    private static void allGuarantees() {
        ClientGuarantees store = new ClientGuarantees();
        Check.due("example 1, setGuarantees(0, 15)", 0, store.setGuarantees(0, 15));
        Check.due("example 1, write(0, 0, 0, 11)", 1, store.write(0, 0, 0, 11));
        Check.due("example 1, read(0, 1, 0)", -3, store.read(0, 1, 0));
        Check.due("example 1, syncsForRead(0, 1)", 1, store.syncsForRead(0, 1));
        Check.due("example 1, sync(0, 1)", 1, store.sync(0, 1));
        Check.due("example 1, read(0, 1, 0) again", 11, store.read(0, 1, 0));
    }

    private static void equalTimestamps() {
        ClientGuarantees store = new ClientGuarantees();
        Check.due("example 2, write(0, 0, 0, 1)", 1, store.write(0, 0, 0, 1));
        Check.due("example 2, write(1, 1, 0, 2)", 1, store.write(1, 1, 0, 2));
        Check.due("example 2, sync(0, 1)", 1, store.sync(0, 1));
        Check.due("example 2, peek(1, 0)", 2, store.peek(1, 0));
        Check.due("example 2, peek(0, 0)", 1, store.peek(0, 0));
        Check.due("example 2, compare(0, 1)", 2, store.compare(0, 1));
    }

    private static void breachOfWhatWasNotRequested() {
        ClientGuarantees store = new ClientGuarantees();
        Check.due("example 3, write(0, 0, 2, 5)", 1, store.write(0, 0, 2, 5));
        Check.due("example 3, read(0, 1, 2)", 100, store.read(0, 1, 2));
        Check.due("example 3, breaches(0)", 1, store.breaches(0));
        Check.due("example 3, peek(1, 2)", -5, store.peek(1, 2));
        Check.due("example 3, errorCount(-5)", 1, store.errorCount(-5));
    }

    private static void stoppedExecution() {
        ClientGuarantees store = new ClientGuarantees();
        Check.due("example 4, clearText()", 0, store.clearText());
        int[] bytes = {119, 48, 32, 48, 32, 49, 32, 52, 50, 59, 115, 48, 32, 48, 59};
        for (int i = 0; i < bytes.length; i++) {
            Check.due("example 4, append(" + bytes[i] + ")", i + 1, store.append(bytes[i]));
        }
        Check.due("example 4, execute()", -1001, store.execute());
        Check.due("example 4, writes()", 0, store.writes());
    }

    private static void errors() {
        ClientGuarantees store = new ClientGuarantees();
        Check.due("example 5, read(0, 3, 0)", -2, store.read(0, 3, 0));
        Check.due("example 5, sync(1, 1)", -2, store.sync(1, 1));
        Check.due("example 5, undo()", -6, store.undo());
    }

    private static void constants() {
        Check.due("OUT_OF_RANGE", -2, ClientGuarantees.OUT_OF_RANGE);
        Check.due("NOT_ALLOWED", -3, ClientGuarantees.NOT_ALLOWED);
        Check.due("FULL", -4, ClientGuarantees.FULL);
        Check.due("ABSENT", -5, ClientGuarantees.ABSENT);
        Check.due("NOTHING_SAVED", -6, ClientGuarantees.NOTHING_SAVED);
        Check.due("NONE", -1, ClientGuarantees.NONE);
    }
}
