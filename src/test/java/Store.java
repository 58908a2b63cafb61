/**
 * The object under test, with its calls counted: what the document promises ends with the 512th, so
 * a test that goes on behind it is a wrong test.
 */
final class Store {
    static final int MOST_CALLS = 512;

    private final ClientGuarantees inner = new ClientGuarantees();
    private int calls = 0;

    private ClientGuarantees next() {
        calls++;
        Check.holds("call " + calls + " of the test is one of the first " + MOST_CALLS, calls <= MOST_CALLS);
        return inner;
    }

    int callsLeft() {
        return MOST_CALLS - calls;
    }

    int setGuarantees(int client, int guarantees) {
        return next().setGuarantees(client, guarantees);
    }

    int forget(int client) {
        return next().forget(client);
    }

    int readCount(int client, int origin) {
        return next().readCount(client, origin);
    }

    int writeCount(int client, int origin) {
        return next().writeCount(client, origin);
    }

    int read(int client, int replica, int key) {
        return next().read(client, replica, key);
    }

    int write(int client, int replica, int key, int value) {
        return next().write(client, replica, key, value);
    }

    int sync(int from, int to) {
        return next().sync(from, to);
    }

    int readBreaches(int client, int replica) {
        return next().readBreaches(client, replica);
    }

    int writeBreaches(int client, int replica) {
        return next().writeBreaches(client, replica);
    }

    int readableReplica(int client) {
        return next().readableReplica(client);
    }

    int writableReplica(int client) {
        return next().writableReplica(client);
    }

    int syncsForRead(int client, int replica) {
        return next().syncsForRead(client, replica);
    }

    int count(int replica, int origin) {
        return next().count(replica, origin);
    }

    int clock(int replica) {
        return next().clock(replica);
    }

    int peek(int replica, int key) {
        return next().peek(replica, key);
    }

    int compare(int a, int b) {
        return next().compare(a, b);
    }

    int breaches(int guarantee) {
        return next().breaches(guarantee);
    }

    int append(int value) {
        return next().append(value);
    }

    int clearText() {
        return next().clearText();
    }

    int execute() {
        return next().execute();
    }

    int undo() {
        return next().undo();
    }

    int errorCount(int code) {
        return next().errorCount(code);
    }

    int writes() {
        return next().writes();
    }

    long digest() {
        return next().digest();
    }
}
