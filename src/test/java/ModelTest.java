import java.util.ArrayDeque;
import java.util.ArrayList;
import java.util.Comparator;
import java.util.Deque;
import java.util.HashSet;
import java.util.List;
import java.util.Random;
import java.util.Set;
import java.util.regex.Pattern;

/**
 * Runs of 512 calls by a fixed seed, against a second store written another way: its replicas hold
 * sets of writes instead of vectors, and its command text is judged by a pattern. Every answer and,
 * after one call in three, the digest must agree. Some runs keep to the edges of every range, some
 * begin with a store that is nearly full, and some texts are as long as a text can be.
 */
public final class ModelTest {
    private static final int RUNS = 600;
    private static final int CALLS = 512;

    public static void main(String[] args) {
        for (int run = 0; run < RUNS; run++) {
            new ModelTest(run).play();
        }
        Check.end();
    }

    private final int run;
    private final Random random;
    private final ClientGuarantees store = new ClientGuarantees();
    private final Model model = new Model();
    private int calls = 0;

    private ModelTest(int run) {
        this.run = run;
        this.random = new Random(run);
    }

    private void play() {
        if (run % 5 == 1) {
            for (int i = random.nextInt(3) + 57; i > 0; i--) {
                call(10);
            }
        }
        while (calls <= CALLS - 2) {
            // Typing takes many calls: the runs with little of it get far enough to fill the store.
            if (random.nextInt(run % 3 == 0 ? 12 : 100) == 0 && calls <= CALLS - 8) {
                typeText();
            } else {
                call(random.nextInt(40));
            }
        }
    }

    private void agree(String what, long want, long got) {
        Check.due("run " + run + ", call " + calls + ": " + what, want, got);
        calls++;
        if (random.nextInt(3) == 0) {
            Check.due("run " + run + ", call " + calls + ": digest() after " + what, model.digest(), store.digest());
            calls++;
        }
    }

    /** Mostly a number of the range, now and then one just or far outside of it. */
    private int pick(int bound) {
        if (run % 5 == 2) {
            return pickEdge(bound);
        }
        int chance = random.nextInt(60);
        if (chance == 0) {
            return bound;
        }
        if (chance == 1) {
            return -1;
        }
        return chance == 2 ? random.nextInt() : random.nextInt(bound);
    }

    private int pickEdge(int bound) {
        int[] outside = {-1, bound, Integer.MIN_VALUE, Integer.MAX_VALUE};
        if (random.nextInt(12) == 0) {
            return outside[random.nextInt(outside.length)];
        }
        return random.nextBoolean() ? 0 : bound - 1;
    }

    private void call(int which) {
        int c = pick(4);
        int r = pick(3);
        int o = pick(3);
        int k = pick(4);
        int v = pick(100);
        int g = random.nextInt(3) == 0 ? 0 : pick(16);
        switch (which) {
            case 0, 1 -> agree("setGuarantees " + c + " " + g, model.setGuarantees(c, g), store.setGuarantees(c, g));
            case 2 -> agree("forget " + c, model.forget(c), store.forget(c));
            case 3 -> agree("readCount " + c + " " + o, model.readCount(c, o), store.readCount(c, o));
            case 4 -> agree("writeCount " + c + " " + o, model.writeCount(c, o), store.writeCount(c, o));
            case 5, 6, 7, 8, 9 -> agree("read " + c + " " + r + " " + k, model.read(c, r, k), store.read(c, r, k));
            case 10, 11, 12, 13, 14, 15, 16, 17 -> agree("write " + c + " " + r + " " + k + " " + v,
                    model.write(c, r, k, v), store.write(c, r, k, v));
            case 18, 19, 20, 21 -> agree("sync " + r + " " + o, model.sync(r, o), store.sync(r, o));
            case 22 -> agree("readBreaches " + c + " " + r, model.readBreaches(c, r), store.readBreaches(c, r));
            case 23 -> agree("writeBreaches " + c + " " + r, model.writeBreaches(c, r), store.writeBreaches(c, r));
            case 24 -> agree("readableReplica " + c, model.readableReplica(c), store.readableReplica(c));
            case 25 -> agree("writableReplica " + c, model.writableReplica(c), store.writableReplica(c));
            case 26, 27, 28 -> agree("syncsForRead " + c + " " + r, model.syncsForRead(c, r), store.syncsForRead(c, r));
            case 29 -> agree("count " + r + " " + o, model.count(r, o), store.count(r, o));
            case 30 -> agree("clock " + r, model.clock(r), store.clock(r));
            case 31 -> agree("peek " + r + " " + k, model.peek(r, k), store.peek(r, k));
            case 32, 33 -> agree("compare " + r + " " + o, model.compare(r, o), store.compare(r, o));
            case 34 -> agree("breaches " + k, model.breaches(k), store.breaches(k));
            case 35, 36 -> agree("undo", model.undo(), store.undo());
            case 37 -> {
                int code = -2 - pick(5);
                agree("errorCount " + code, model.errorCount(code), store.errorCount(code));
            }
            case 38 -> agree("writes", model.writes(), store.writes());
            default -> agree("execute \"" + model.text + "\"", model.execute(), store.execute());
        }
    }

    private void typeText() {
        agree("clearText", model.clearText(), store.clearText());
        StringBuilder text = new StringBuilder();
        for (int i = random.nextInt(8); i >= 0; i--) {
            addCommand(text);
        }
        if (random.nextInt(3) == 0) {
            spoil(text);
        }
        if (random.nextInt(4) == 0 && text.length() < 100) {
            text.insert(0, " ".repeat(100 - text.length() + random.nextInt(2)));
        }
        for (int i = 0; i < text.length() && calls <= CALLS - 6; i++) {
            int sign = text.charAt(i);
            agree("append " + sign, model.append(sign), store.append(sign));
        }
        if (random.nextInt(20) == 0) {
            int sign = random.nextBoolean() ? -1 : 128;
            agree("append " + sign, model.append(sign), store.append(sign));
        }
        agree("execute \"" + model.text + "\"", model.execute(), store.execute());
    }

    private void addCommand(StringBuilder text) {
        int[][] bounds = {{4, 16}, {4, 3, 4}, {4, 3, 4, 100}, {3, 3}, {4}};
        int kind = random.nextInt(5);
        addSpaces(text, 0);
        text.append("grwsf".charAt(kind));
        for (int i = 0; i < bounds[kind].length; i++) {
            addSpaces(text, i == 0 ? 0 : 1);
            int number = random.nextInt(90) == 0 ? random.nextInt(100) : random.nextInt(bounds[kind][i]);
            if (kind == 3 && i == 1 && text.charAt(text.length() - 2) - '0' == number && random.nextInt(5) > 0) {
                number = (number + 1) % 3;
            }
            text.append(random.nextInt(6) == 0 && number < 10 ? "0" : "").append(number);
        }
        addSpaces(text, 0);
        text.append(';');
    }

    private void addSpaces(StringBuilder text, int least) {
        text.append(" ".repeat(least + Math.max(0, random.nextInt(8) - 6)));
    }

    private void spoil(StringBuilder text) {
        int place = random.nextInt(text.length());
        char sign = "grwsf 0123456789;;  xG\0\t".charAt(random.nextInt(24));
        switch (random.nextInt(4)) {
            case 0 -> text.setLength(place);
            case 1 -> text.deleteCharAt(place);
            case 2 -> text.insert(place, sign);
            default -> text.setCharAt(place, sign);
        }
    }

    private record Write(int origin, int sequence, int key, int value, int time) {
    }

    private static final class Client {
        int requested = 0;
        int[] reads = new int[3];
        int[] writes = new int[3];

        Client copy() {
            Client copy = new Client();
            copy.requested = requested;
            copy.reads = reads.clone();
            copy.writes = writes.clone();
            return copy;
        }
    }

    private static final class World {
        final List<Set<Write>> known = new ArrayList<>();
        final int[] clocks = new int[3];
        final List<Client> clients = new ArrayList<>();
        final int[] breaches = new int[4];

        World copy() {
            World copy = new World();
            known.forEach(set -> copy.known.add(new HashSet<>(set)));
            clients.forEach(client -> copy.clients.add(client.copy()));
            System.arraycopy(clocks, 0, copy.clocks, 0, 3);
            System.arraycopy(breaches, 0, copy.breaches, 0, 4);
            return copy;
        }

        int[] vector(Set<Write> set) {
            int[] vector = new int[3];
            set.forEach(write -> vector[write.origin()]++);
            return vector;
        }

        int value(int replica, int key) {
            return known.get(replica).stream().filter(write -> write.key() == key)
                    .max(Comparator.comparingInt(Write::time).thenComparingInt(Write::origin))
                    .map(Write::value).orElse(100);
        }

        int total() {
            Set<Write> all = new HashSet<>();
            known.forEach(all::addAll);
            return all.size();
        }
    }

    private static final class Model {
        private static final String NUMBER = " *[0-9][0-9]?";
        private static final String NEXT = " +[0-9][0-9]?";
        private static final Pattern TEXT = Pattern.compile(" *((g" + NUMBER + NEXT + "|r" + NUMBER + NEXT + NEXT
                + "|w" + NUMBER + NEXT + NEXT + NEXT + "|s" + NUMBER + NEXT + "|f" + NUMBER + ") *; *)+");
        private static final String[] ENDS = {
            "", ";", "0;", " 0;", "0 0;", " 0 0;", "0 0 0;", " 0 0 0;", "0 0 0 0;", " 0 0 0 0;", "f0;",
        };

        private World now = new World();
        private final Deque<World> saved = new ArrayDeque<>();
        private final int[] errors = new int[7];
        private String text = "";

        Model() {
            for (int i = 0; i < 3; i++) {
                now.known.add(new HashSet<>());
            }
            for (int i = 0; i < 4; i++) {
                now.clients.add(new Client());
            }
        }

        private int error(int code) {
            errors[-code]++;
            return code;
        }

        private static boolean in(int number, int bound) {
            return number >= 0 && number < bound;
        }

        private static boolean covers(int[] a, int[] b) {
            return a[0] >= b[0] && a[1] >= b[1] && a[2] >= b[2];
        }

        private static int[] merged(int[] a, int[] b) {
            return new int[] {Math.max(a[0], b[0]), Math.max(a[1], b[1]), Math.max(a[2], b[2])};
        }

        /** Does a command on a copy of the world, which takes the world's place if all went well. */
        private int change(int... command) {
            World next = now.copy();
            int result = apply(next, command);
            if (result < 0) {
                return error(result);
            }
            save();
            now = next;
            return result;
        }

        private void save() {
            saved.push(now);
            if (saved.size() > 4) {
                saved.removeLast();
            }
        }

        private static int apply(World world, int[] command) {
            return switch (command[0]) {
                case 'g' -> applyGuarantees(world, command[1], command[2]);
                case 'f' -> applyForget(world, command[1]);
                case 'r' -> applyRead(world, command[1], command[2], command[3]);
                case 'w' -> applyWrite(world, command[1], command[2], command[3], command[4]);
                default -> applySync(world, command[1], command[2]);
            };
        }

        private static int applyGuarantees(World world, int c, int set) {
            if (!in(c, 4) || !in(set, 16)) {
                return -2;
            }
            int previous = world.clients.get(c).requested;
            world.clients.get(c).requested = set;
            return previous;
        }

        private static int applyForget(World world, int c) {
            if (!in(c, 4)) {
                return -2;
            }
            Client client = world.clients.get(c);
            int sum = 0;
            for (int i = 0; i < 3; i++) {
                sum += client.reads[i];
                sum += client.writes[i];
            }
            client.reads = new int[3];
            client.writes = new int[3];
            return sum;
        }

        private static int broken(World world, int c, Set<Write> known, boolean byRead) {
            int[] vector = world.vector(known);
            boolean reads = covers(vector, world.clients.get(c).reads);
            boolean writes = covers(vector, world.clients.get(c).writes);
            if (byRead) {
                return (writes ? 0 : 1) + (reads ? 0 : 2);
            }
            return (reads ? 0 : 4) + (writes ? 0 : 8);
        }

        private static boolean allowed(World world, int c, Set<Write> known, boolean byRead) {
            return (broken(world, c, known, byRead) & world.clients.get(c).requested) == 0;
        }

        private static void breach(World world, int c, int r, boolean byRead) {
            int broken = broken(world, c, world.known.get(r), byRead);
            for (int i = 0; i < 4; i++) {
                world.breaches[i] += (broken & (int) Math.pow(2, i)) == 0 ? 0 : 1;
            }
        }

        private static int applyRead(World world, int c, int r, int k) {
            if (!in(c, 4) || !in(r, 3) || !in(k, 4)) {
                return -2;
            }
            if (!allowed(world, c, world.known.get(r), true)) {
                return -3;
            }
            breach(world, c, r, true);
            Client client = world.clients.get(c);
            client.reads = merged(client.reads, world.vector(world.known.get(r)));
            return world.value(r, k);
        }

        private static int applyWrite(World world, int c, int r, int k, int v) {
            if (!in(c, 4) || !in(r, 3) || !in(k, 4) || !in(v, 100)) {
                return -2;
            }
            if (!allowed(world, c, world.known.get(r), false)) {
                return -3;
            }
            if (world.total() == 60) {
                return -4;
            }
            breach(world, c, r, false);
            int sequence = world.vector(world.known.get(r))[r] + 1;
            world.clocks[r] += 1;
            world.known.get(r).add(new Write(r, sequence, k, v, world.clocks[r]));
            world.clients.get(c).writes[r] = sequence;
            return sequence;
        }

        private static int applySync(World world, int a, int b) {
            if (!in(a, 3) || !in(b, 3) || a == b) {
                return -2;
            }
            Set<Write> learned = new HashSet<>(world.known.get(a));
            learned.removeAll(world.known.get(b));
            world.known.get(b).addAll(learned);
            learned.forEach(write -> world.clocks[b] = Math.max(world.clocks[b], write.time()));
            return learned.size();
        }

        int setGuarantees(int c, int g) {
            return change('g', c, g);
        }

        int forget(int c) {
            return change('f', c);
        }

        int read(int c, int r, int k) {
            return change('r', c, r, k);
        }

        int write(int c, int r, int k, int v) {
            return change('w', c, r, k, v);
        }

        int sync(int a, int b) {
            return change('s', a, b);
        }

        int readCount(int c, int o) {
            return in(c, 4) && in(o, 3) ? now.clients.get(c).reads[o] : error(-2);
        }

        int writeCount(int c, int o) {
            return in(c, 4) && in(o, 3) ? now.clients.get(c).writes[o] : error(-2);
        }

        int readBreaches(int c, int r) {
            return in(c, 4) && in(r, 3) ? broken(now, c, now.known.get(r), true) : error(-2);
        }

        int writeBreaches(int c, int r) {
            return in(c, 4) && in(r, 3) ? broken(now, c, now.known.get(r), false) : error(-2);
        }

        private int suitable(int c, boolean byRead) {
            if (!in(c, 4)) {
                return error(-2);
            }
            for (int r = 0; r < 3; r++) {
                if (allowed(now, c, now.known.get(r), byRead)) {
                    return r;
                }
            }
            return -1;
        }

        int readableReplica(int c) {
            return suitable(c, true);
        }

        int writableReplica(int c) {
            return suitable(c, false);
        }

        int syncsForRead(int c, int r) {
            if (!in(c, 4) || !in(r, 3)) {
                return error(-2);
            }
            int[][] sets = {{0, 2, 4, 6}, {0, 1, 4, 5}, {0, 1, 2, 3}};
            for (int set : sets[r]) {
                Set<Write> known = new HashSet<>(now.known.get(r));
                for (int other = 0; other < 3; other++) {
                    if ((set & (int) Math.pow(2, other)) != 0) {
                        known.addAll(now.known.get(other));
                    }
                }
                if (allowed(now, c, known, true)) {
                    return set;
                }
            }
            return -1;
        }

        int count(int r, int o) {
            return in(r, 3) && in(o, 3) ? now.vector(now.known.get(r))[o] : error(-2);
        }

        int clock(int r) {
            return in(r, 3) ? now.clocks[r] : error(-2);
        }

        int peek(int r, int k) {
            if (!in(r, 3) || !in(k, 4)) {
                return error(-2);
            }
            int value = now.value(r, k);
            return value == 100 ? error(-5) : value;
        }

        int compare(int a, int b) {
            if (!in(a, 3) || !in(b, 3)) {
                return error(-2);
            }
            boolean aKnowsAll = now.known.get(a).containsAll(now.known.get(b));
            boolean bKnowsAll = now.known.get(b).containsAll(now.known.get(a));
            return aKnowsAll && bKnowsAll ? 0 : aKnowsAll ? 1 : bKnowsAll ? 2 : 3;
        }

        int breaches(int g) {
            return in(g, 4) ? now.breaches[g] : error(-2);
        }

        int append(int value) {
            if (!in(value, 128)) {
                return error(-2);
            }
            if (text.length() == 100) {
                return error(-4);
            }
            text += (char) value;
            return text.length();
        }

        int clearText() {
            int length = text.length();
            text = "";
            return length;
        }

        int execute() {
            if (!TEXT.matcher(text).matches()) {
                return -10 - errorPosition();
            }
            World next = now.copy();
            String[] commands = text.replaceAll("; *$", "").split(";");
            int done = 0;
            for (int i = 0; i < commands.length; i++) {
                int result = apply(next, numbersOf(commands[i].trim()));
                if (result == -2 || result == -4) {
                    return -1000 - i;
                }
                done += result == -3 ? 0 : 1;
            }
            save();
            now = next;
            return done;
        }

        private static int[] numbersOf(String command) {
            String[] words = command.substring(1).trim().split(" +");
            int[] numbers = new int[words.length + 1];
            numbers[0] = command.charAt(0);
            for (int i = 0; i < words.length; i++) {
                numbers[i + 1] = Integer.parseInt(words[i]);
            }
            return numbers;
        }

        /** The longest beginning of the text that some end makes well formed. */
        private int errorPosition() {
            for (int length = text.length(); length > 0; length--) {
                for (String end : ENDS) {
                    if (TEXT.matcher(text.substring(0, length) + end).matches()) {
                        return length;
                    }
                }
            }
            return 0;
        }

        int undo() {
            if (saved.isEmpty()) {
                return error(-6);
            }
            now = saved.pop();
            return saved.size();
        }

        int errorCount(int code) {
            return code <= -2 && code >= -6 ? errors[-code] : error(-2);
        }

        int writes() {
            return now.total();
        }

        long digest() {
            List<Integer> values = new ArrayList<>();
            for (int code = 2; code <= 6; code++) {
                values.add(errors[code]);
            }
            values.add(now.total());
            for (int r = 0; r < 3; r++) {
                for (int count : now.vector(now.known.get(r))) {
                    values.add(count);
                }
                values.add(now.clocks[r]);
                for (int k = 0; k < 4; k++) {
                    values.add(now.value(r, k));
                }
            }
            for (Client client : now.clients) {
                values.add(client.requested);
                for (int count : client.reads) {
                    values.add(count);
                }
                for (int count : client.writes) {
                    values.add(count);
                }
            }
            for (int breaches : now.breaches) {
                values.add(breaches);
            }
            values.add(text.length());
            values.add(saved.size());
            return values.stream().mapToLong(Integer::longValue).reduce(2647L, (h, v) -> 31 * h + v);
        }
    }
}
