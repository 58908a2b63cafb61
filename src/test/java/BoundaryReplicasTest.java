/** The boundary cases of promises 14 to 18, a sentence each. */
public final class BoundaryReplicasTest extends Boundary {
    public static void main(String[] args) {
        new BoundaryReplicasTest().runAtEveryAge();
    }

    @Override
    void sentences() {
        countEdges();
        countOutOfRange();
        clockEdges();
        clockOutOfRange();
        peekWithoutClient();
        peekValue();
        peekOutOfRange();
        peekOutOfRangeFirst();
        peekAbsent();
        compareEqual();
        compareCovers();
        compareNeither();
        compareOutOfRange();
        breachesOfWhich();
        breachesEdges();
        breachesOutOfRange();
    }

    private void countEdges() {
        sentence(14, "Returns the count;");
        for (int origin = 0; origin < 3; origin++) {
            int o = origin;
            int other = (origin + 1) % 3;
            Store store = store();
            for (int i = 0; i < 60; i++) {
                store.write(0, origin, 0, 1);
            }
            Check.plain("count of the origin itself", store, 60, () -> store.count(o, o));
            Check.plain("count of a replica that learned nothing", store, 0, () -> store.count(other, o));
            Check.plain("count of an origin without writes", store, 0, () -> store.count(o, other));
            store.sync(origin, other);
            Check.plain("count of a replica that learned all", store, 60, () -> store.count(other, o));
            Check.plain("count of what a learner wrote", store, 0, () -> store.count(other, other));
        }
    }

    private void countOutOfRange() {
        sentence(14, "OUT_OF_RANGE if an argument is out of range.");
        everyMix("count", (store, a) -> store.count(a[0], a[1]), 3, 3);
    }

    private void clockEdges() {
        sentence(15, "Returns the clock;");
        for (int replica = 0; replica < 3; replica++) {
            int r = replica;
            int other = (replica + 2) % 3;
            Store store = store();
            Check.plain("clock at the beginning", store, 0, () -> store.clock(r));
            for (int i = 0; i < 59; i++) {
                store.write(0, replica, 0, 1);
            }
            Check.plain("clock after 59 writes", store, 59, () -> store.clock(r));
            store.sync(replica, other);
            store.write(0, other, 0, 1);
            Check.plain("clock of the learner after the 60th write", store, 60, () -> store.clock(other));
            store.write(0, other, 0, 1);
            Check.plain("clock after a write that was refused", store, 60, () -> store.clock(other));
            Check.plain("clock of the third replica", store, 0, () -> store.clock(3 - r - other));
        }
    }

    private void clockOutOfRange() {
        sentence(15, "OUT_OF_RANGE if there is no such replica.");
        everyMix("clock", (store, a) -> store.clock(a[0]), 3);
    }

    private void peekWithoutClient() {
        sentence(16, "Returns the value of a key at a replica, without any client.");
        Store store = store();
        for (int client = 0; client < 4; client++) {
            store.write(client, 0, 0, 5);
            store.setGuarantees(client, 15);
        }
        Check.plain("peek(0, 0)", store, 5, () -> store.peek(0, 0));
        Check.refused("peek(1, 0), where no client may read", store, -5, () -> store.peek(1, 0));
        for (int client = 0; client < 4; client++) {
            Check.due("readCount(" + client + ", 0) after peek", 0, store.readCount(client, 0));
            Check.due("breaches(" + client + ") after peek", 0, store.breaches(client));
        }
    }

    private void peekValue() {
        sentence(16, "Returns the value;");
        for (int replica = 0; replica < 3; replica++) {
            int r = replica;
            Store store = store();
            store.write(0, replica, 0, 0);
            store.write(0, replica, 3, 99);
            Check.plain("peek of the least value", store, 0, () -> store.peek(r, 0));
            Check.plain("peek of the greatest value", store, 99, () -> store.peek(r, 3));
            store.write(0, replica, 0, 99);
            store.write(0, replica, 3, 0);
            Check.plain("peek of 99 written over 0", store, 99, () -> store.peek(r, 0));
            Check.plain("peek of 0 written over 99", store, 0, () -> store.peek(r, 3));
        }
    }

    private void peekOutOfRange() {
        sentence(16, "OUT_OF_RANGE if an argument is out of range");
        everyMix("peek", (store, a) -> store.peek(a[0], a[1]), 3, 4);
    }

    private void peekOutOfRangeFirst() {
        sentence(16, "OUT_OF_RANGE if an argument is out of range (checked first)");
        Store store = store();
        Check.refused("peek(3, 0) of an empty store", store, -2, () -> store.peek(3, 0));
        Check.refused("peek(0, 4) of an empty store", store, -2, () -> store.peek(0, 4));
        Check.refused("peek(-1, -1) of an empty store", store, -2, () -> store.peek(-1, -1));
        Check.due("errorCount(-5)", 0, store.errorCount(-5));
    }

    private void peekAbsent() {
        sentence(16, "ABSENT if the key is absent.");
        for (int replica = 0; replica < 3; replica++) {
            for (int key = 0; key < 4; key++) {
                int r = replica;
                int k = key;
                int other = (replica + 1) % 3;
                Store store = store();
                Check.refused("peek before a write", store, -5, () -> store.peek(r, k));
                store.write(0, replica, key, 0);
                Check.plain("peek of value 0", store, 0, () -> store.peek(r, k));
                Check.refused("peek of the next key", store, -5, () -> store.peek(r, (k + 1) % 4));
                Check.refused("peek at another replica", store, -5, () -> store.peek(other, k));
                store.write(0, replica, key, 99);
                Check.plain("peek of value 99", store, 99, () -> store.peek(r, k));
                store.sync(replica, other);
                Check.plain("peek at another replica after sync", store, 99, () -> store.peek(other, k));
                store.undo();
                Check.refused("peek at another replica after undo()", store, -5, () -> store.peek(other, k));
            }
        }
    }

    private void compareEqual() {
        sentence(17, "Returns 0 if they are equal");
        Store store = store();
        for (int replica = 0; replica < 3; replica++) {
            int r = replica;
            Check.plain("compare of a replica with itself", store, 0, () -> store.compare(r, r));
            store.write(0, replica, 0, 1);
            Check.plain("compare of a replica with itself after a write", store, 0, () -> store.compare(r, r));
        }
        store.sync(0, 1);
        store.sync(1, 0);
        Check.plain("compare(0, 1) after syncs both ways", store, 0, () -> store.compare(0, 1));
        Check.plain("compare(1, 0) after syncs both ways", store, 0, () -> store.compare(1, 0));
    }

    private void compareCovers() {
        sentence(17, "otherwise 1 if the vector of a covers that of b, 2 if the vector of b covers that of a");
        for (int origin = 0; origin < 3; origin++) {
            for (int learner = 0; learner < 3; learner++) {
                if (learner != origin) {
                    int more = learner;
                    int less = 3 - origin - learner;
                    Store store = store();
                    store.write(0, origin, 0, 1);
                    store.sync(origin, more);
                    store.sync(origin, less);
                    Check.plain("compare of equal ones", store, 0, () -> store.compare(more, less));
                    store.write(0, origin, 0, 1);
                    store.sync(origin, more);
                    Check.plain("compare, one count greater by one", store, 1, () -> store.compare(more, less));
                    Check.plain("compare, one count less by one", store, 2, () -> store.compare(less, more));
                }
            }
        }
    }

    private void compareNeither() {
        sentence(17, "3 if neither covers the other");
        for (int a = 0; a < 3; a++) {
            for (int b = 0; b < 3; b++) {
                if (a != b) {
                    int first = a;
                    int second = b;
                    Store store = store();
                    store.write(0, a, 0, 1);
                    store.write(0, b, 0, 1);
                    store.write(0, b, 0, 1);
                    Check.plain("compare, each with a write of its own", store, 3, () -> store.compare(first, second));
                    store.sync(b, a);
                    Check.plain("compare after sync to the first", store, 1, () -> store.compare(first, second));
                    store.write(0, b, 0, 1);
                    Check.plain("compare after one write more", store, 3, () -> store.compare(first, second));
                }
            }
        }
    }

    private void compareOutOfRange() {
        sentence(17, "OUT_OF_RANGE if an argument is out of range.");
        everyMix("compare", (store, a) -> store.compare(a[0], a[1]), 3, 3);
    }

    private void breachesOfWhich() {
        sentence(18, "`guarantee`: 0 for read your writes, 1 for monotonic reads, 2 for writes follow reads, "
                + "3 for monotonic writes");
        for (int guarantee = 0; guarantee < 4; guarantee++) {
            Store store = store();
            store.write(0, 0, 0, 1);
            store.read(1, 0, 0);
            int client = guarantee == 0 || guarantee == 3 ? 0 : 1;
            if (guarantee < 2) {
                store.read(client, 2, 0);
            } else {
                store.write(client, 2, 0, 1);
            }
            for (int asked = 0; asked < 4; asked++) {
                int g = asked;
                Check.plain("breaches(" + g + ") after one of " + guarantee, store, g == guarantee ? 1 : 0,
                        () -> store.breaches(g));
            }
        }
    }

    private void breachesEdges() {
        sentence(18, "Returns the number of breaches; OUT_OF_RANGE");
        Store store = store();
        for (int guarantee = 0; guarantee < 4; guarantee++) {
            int g = guarantee;
            Check.plain("breaches(" + g + ") at the beginning", store, 0, () -> store.breaches(g));
        }
        store.write(0, 0, 0, 1);
        store.write(2, 0, 0, 1);
        store.read(1, 0, 0);
        for (int i = 0; i < 100; i++) {
            store.read(0, 1, 0);
        }
        for (int i = 0; i < 50; i++) {
            store.read(1, 1, 0);
        }
        for (int i = 0; i < 20; i++) {
            store.write(1, 2, 0, 1);
        }
        for (int i = 0; i < 10; i++) {
            store.write(2, 2, 0, 1);
        }
        int[] wanted = {100, 50, 20, 10};
        for (int guarantee = 0; guarantee < 4; guarantee++) {
            int g = guarantee;
            Check.plain("breaches(" + g + ")", store, wanted[g], () -> store.breaches(g));
        }
    }

    private void breachesOutOfRange() {
        sentence(18, "OUT_OF_RANGE if there is no such guarantee.");
        everyMix("breaches", (store, a) -> store.breaches(a[0]), 4);
        Store store = store();
        Check.refused("breaches(4)", store, -2, () -> store.breaches(4));
        Check.refused("breaches(8), which is a bit but no number of one", store, -2, () -> store.breaches(8));
        Check.refused("breaches(-1)", store, -2, () -> store.breaches(-1));
    }
}
