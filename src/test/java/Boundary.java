import java.io.IOException;
import java.io.UncheckedIOException;
import java.nio.file.Files;
import java.nio.file.Path;
import java.util.Arrays;

/**
 * Tests of the sentences of the document that name a boundary case, a method each. A method first
 * names the promise and quotes the sentence; the quotation must stand in the document, under that
 * promise. All of them run on new objects and again on objects that have been used before.
 */
abstract class Boundary {
    private static final Path DOCUMENT = Path.of("../shared/DOC.md");

    /** How often an object has been used and brought back: each time moves the saved states on. */
    private static final int[] AGES = {0, 1, 2, 3, 4, 21};

    private final String document;
    private int age = 0;

    Boundary() {
        try {
            document = Files.readString(DOCUMENT);
        } catch (IOException problem) {
            throw new UncheckedIOException(problem);
        }
    }

    abstract void sentences();

    final void runAtEveryAge() {
        for (int chosen : AGES) {
            age = chosen;
            sentences();
        }
        Check.end();
    }

    /** The sentence that is tested from here on, as it stands under the promise. */
    final void sentence(int promise, String words) {
        Check.heading("promise " + promise + ", \"" + words + "\", age " + age + ": ");
        quoted("## Promise " + promise + ":", words);
    }

    /** The same for a rule that all calls share, with the promises that it is tested by. */
    final void rule(String words, int... promises) {
        Check.heading("promises " + Arrays.toString(promises) + ", rule \"" + words + "\", age " + age + ": ");
        quoted("## Description", words);
    }

    /** The same for what the document says before all promises. */
    final void opening(String words) {
        Check.heading("\"" + words + "\", age " + age + ": ");
        quoted("## What it is", words);
    }

    private void quoted(String title, String words) {
        int begin = document.indexOf(title);
        int end = document.indexOf("\n## ", begin + 1);
        Check.holds("the document has " + title, begin >= 0 && end >= 0);
        Check.holds("the sentence stands under " + title, begin >= 0 && end >= 0
                && document.substring(begin, end).replace('\n', ' ').contains(words));
    }

    /** An object that must answer as a new one does. */
    final Store store() {
        Store store = new Store();
        for (int i = 0; i < age; i++) {
            useAndBringBack(store, i == 0);
        }
        return store;
    }

    private static void useAndBringBack(Store store, boolean withText) {
        // It changes nothing, so the state that is dropped as the oldest is the one to come back to.
        store.setGuarantees(0, 0);
        store.write(1, 0, 1, 71);
        store.setGuarantees(1, 15);
        store.write(2, 2, 3, 99);
        if (withText) {
            Check.run(store, "s2 1;r3 1 3;w3 1 0 9;");
            store.clearText();
        } else {
            store.read(2, 0, 1);
        }
        for (int i = 0; i < 4; i++) {
            store.undo();
        }
    }

    /** A call with as many arguments as there are ranges. */
    interface Call {
        int of(Store store, int[] arguments);
    }

    /** Whether a mix of arguments, each in its own range, is out of range all the same. */
    interface Refusal {
        boolean of(int[] arguments);
    }

    final void everyMix(String name, Call call, int... bounds) {
        everyMix(name, call, mix -> false, bounds);
    }

    /**
     * Every mix of numbers inside and outside of the ranges, from 0 to the bounds less one: the call
     * is OUT_OF_RANGE, counted once, if one of them or more are outside, and only then.
     */
    final void everyMix(String name, Call call, Refusal refusal, int... bounds) {
        int[][] numbers = new int[bounds.length][];
        int mixes = 1;
        for (int i = 0; i < bounds.length; i++) {
            numbers[i] = new int[] {0, bounds[i] - 1, -1, bounds[i], -bounds[i], 65536,
                Integer.MIN_VALUE, Integer.MAX_VALUE};
            mixes *= numbers[i].length;
        }
        for (int mix = 0; mix < mixes; mix++) {
            int[] arguments = new int[bounds.length];
            boolean outside = false;
            int rest = mix;
            for (int i = 0; i < bounds.length; i++) {
                arguments[i] = numbers[i][rest % numbers[i].length];
                rest /= numbers[i].length;
                outside |= arguments[i] < 0 || arguments[i] >= bounds[i];
            }
            oneMix(name + Arrays.toString(arguments), call, arguments, outside || refusal.of(arguments));
        }
    }

    private void oneMix(String what, Call call, int[] arguments, boolean outside) {
        Store store = store();
        store.write(3, 0, 0, 5);
        store.sync(0, 2);
        if (outside) {
            Check.refused(what, store, -2, () -> call.of(store, arguments));
        } else {
            Check.holds(what + " is in range", call.of(store, arguments) != -2);
            Check.due("errorCount(-2) after " + what, 0, store.errorCount(-2));
        }
    }
}
