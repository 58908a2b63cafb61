/** Promises 14 to 18: count, clock, peek, compare and breaches. */
public final class ReplicasTest {
    public static void main(String[] args) {
        counts();
        clocks();
        peeks();
        laterWrites();
        peeksAbsent();
        compares();
        breaches();
        breachesBeforeTheOperation();
        outOfRange();
        Check.end();
    }

    private static void counts() {
        Store store = new Store();
        store.write(0, 0, 0, 1);
        store.write(0, 1, 0, 1);
        store.write(0, 1, 0, 1);
        store.sync(1, 0);
        store.write(0, 1, 0, 1);
        store.sync(0, 2);
        int[][] wanted = {{1, 2, 0}, {0, 3, 0}, {1, 2, 0}};
        for (int replica = 0; replica < 3; replica++) {
            for (int origin = 0; origin < 3; origin++) {
                int r = replica;
                int o = origin;
                Check.plain("count(" + r + ", " + o + ")", store, wanted[r][o], () -> store.count(r, o));
            }
        }
    }

    private static void clocks() {
        Store store = new Store();
        store.write(0, 0, 0, 1);
        store.write(0, 0, 0, 1);
        store.write(0, 0, 0, 1);
        store.write(0, 1, 0, 1);
        store.sync(0, 1);
        Check.plain("clock(1) after learning timestamp 3", store, 3, () -> store.clock(1));
        store.write(0, 1, 0, 1);
        Check.plain("clock(1) after its own write", store, 4, () -> store.clock(1));
        Check.plain("clock(0)", store, 3, () -> store.clock(0));
        Check.plain("clock(2)", store, 0, () -> store.clock(2));
        store.sync(2, 1);
        Check.plain("clock(1) after learning nothing", store, 4, () -> store.clock(1));
        store.write(0, 2, 0, 1);
        store.sync(2, 1);
        Check.plain("clock(1) after learning an old write", store, 4, () -> store.clock(1));
    }

    private static void peeks() {
        Store store = new Store();
        store.write(0, 0, 0, 0);
        store.write(0, 0, 1, 99);
        store.setGuarantees(0, 15);
        Check.plain("peek(0, 0)", store, 0, () -> store.peek(0, 0));
        Check.plain("peek(0, 1)", store, 99, () -> store.peek(0, 1));
        Check.due("readCount(0, 0), peek has no client", 0, store.readCount(0, 0));
    }

    private static void laterWrites() {
        Store store = new Store();
        store.write(0, 2, 0, 20);
        store.write(0, 0, 1, 1);
        store.write(0, 0, 0, 2);
        store.sync(0, 2);
        Check.due("peek(2, 0), the greater timestamp wins over the greater origin", 2, store.peek(2, 0));
        store.write(0, 1, 1, 11);
        store.write(0, 1, 0, 12);
        store.sync(1, 0);
        Check.due("peek(0, 0), the greater origin wins at equal timestamps", 12, store.peek(0, 0));
        store.sync(0, 1);
        Check.due("peek(1, 0), the lower origin loses at equal timestamps", 12, store.peek(1, 0));
        Check.due("peek(1, 1), the lower origin loses at equal timestamps", 11, store.peek(1, 1));
    }

    private static void peeksAbsent() {
        Store store = new Store();
        store.write(0, 0, 2, 5);
        Check.refused("peek(0, 1) of another key", store, -5, () -> store.peek(0, 1));
        Check.refused("peek(1, 2) at another replica", store, -5, () -> store.peek(1, 2));
        Check.refused("peek(1, 4) is out of range first", store, -2, () -> store.peek(1, 4));
    }

    private static void compares() {
        Store store = new Store();
        Check.plain("compare(0, 1) of a new object", store, 0, () -> store.compare(0, 1));
        store.write(0, 0, 0, 1);
        Check.plain("compare(0, 1) where 0 knows more", store, 1, () -> store.compare(0, 1));
        Check.plain("compare(1, 0) where 0 knows more", store, 2, () -> store.compare(1, 0));
        Check.plain("compare(0, 0)", store, 0, () -> store.compare(0, 0));
        store.write(0, 1, 0, 1);
        Check.plain("compare(0, 1) where neither covers", store, 3, () -> store.compare(0, 1));
        Check.plain("compare(1, 0) where neither covers", store, 3, () -> store.compare(1, 0));
        store.sync(0, 1);
        Check.plain("compare(0, 1) after sync(0, 1)", store, 2, () -> store.compare(0, 1));
        Check.plain("compare(1, 0) after sync(0, 1)", store, 1, () -> store.compare(1, 0));
        store.sync(1, 0);
        Check.plain("compare(0, 1) after both syncs", store, 0, () -> store.compare(0, 1));
        Check.plain("compare(2, 2)", store, 0, () -> store.compare(2, 2));
    }

    private static void breaches() {
        Store store = new Store();
        store.write(0, 0, 0, 1);
        store.read(0, 0, 0);
        store.write(1, 0, 0, 1);
        store.read(2, 0, 0);
        store.read(1, 1, 0);
        store.read(1, 2, 0);
        store.read(2, 1, 0);
        store.write(2, 1, 0, 1);
        store.write(2, 1, 0, 1);
        store.write(2, 2, 0, 1);
        int[] wanted = {2, 1, 3, 1};
        for (int guarantee = 0; guarantee < 4; guarantee++) {
            int g = guarantee;
            Check.plain("breaches(" + g + ")", store, wanted[g], () -> store.breaches(g));
        }
    }

    private static void breachesBeforeTheOperation() {
        Store store = new Store();
        store.write(0, 0, 0, 1);
        Check.due("breaches(3) of the first write", 0, store.breaches(3));
        store.read(0, 0, 0);
        Check.due("breaches(1) of the first read", 0, store.breaches(1));
        store.read(0, 1, 0);
        store.read(0, 1, 0);
        Check.due("breaches(0) of two reads", 2, store.breaches(0));
        Check.due("breaches(1) of two reads", 2, store.breaches(1));
        store.setGuarantees(0, 15);
        store.read(0, 1, 0);
        store.write(0, 1, 0, 5);
        Check.due("breaches(0), a refused read is no breach", 2, store.breaches(0));
        Check.due("breaches(2), a refused write is no breach", 0, store.breaches(2));
    }

    private static void outOfRange() {
        Store store = new Store();
        Store other = new Store();
        for (int bad : Check.outside(3)) {
            Check.refused("count(" + bad + ", 0)", store, -2, () -> store.count(bad, 0));
            Check.refused("count(0, " + bad + ")", store, -2, () -> store.count(0, bad));
            Check.refused("clock(" + bad + ")", store, -2, () -> store.clock(bad));
            Check.refused("compare(" + bad + ", 0)", other, -2, () -> other.compare(bad, 0));
            Check.refused("compare(0, " + bad + ")", other, -2, () -> other.compare(0, bad));
            Check.refused("compare(" + bad + ", " + bad + ")", other, -2, () -> other.compare(bad, bad));
            Check.refused("peek(" + bad + ", 0)", store, -2, () -> store.peek(bad, 0));
        }
        for (int bad : Check.outside(4)) {
            Check.refused("peek(0, " + bad + ")", store, -2, () -> store.peek(0, bad));
            Check.refused("breaches(" + bad + ")", other, -2, () -> other.breaches(bad));
        }
    }
}
