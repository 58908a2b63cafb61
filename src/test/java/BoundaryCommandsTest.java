import java.util.function.ToIntFunction;

/** The boundary cases of promises 19 to 21, and of the rules of the command text, a sentence each. */
public final class BoundaryCommandsTest extends Boundary {
    /** One command of each kind; the last byte of each is its semicolon. */
    private static final String[] KINDS = {"g0 15;", "r1 2 3;", "w0 0 1 42;", "s0 1;", "f3;"};

    public static void main(String[] args) {
        new BoundaryCommandsTest().runAtEveryAge();
    }

    @Override
    void sentences() {
        appendRange();
        appendLength();
        appendOutOfRangeFirst();
        appendFull();
        clearEmpties();
        clearLength();
        textHasAtMostHundredBytes();
        commandsEndWithSemicolon();
        commandsAreAsTheMethods();
        numbersHaveOneOrTwoDigits();
        spacesAnywhere();
        spacesRequired();
        atLeastOneCommand();
        firstByteThatCannotStand();
        thirdDigit();
        endsTooEarly();
        executesInOrder();
        textStays();
        parsedFirst();
        stopsAtOutOfRange();
        stopsAtFull();
        skipsNotAllowed();
        savesOneState();
        savesNoState();
        numberNotSkipped();
        syntaxErrorPosition();
        indexOfStop();
        notCounted();
    }

    /** The text, alone in a store, must be answered so, and change nothing if the answer is an error. */
    private void answers(String text, int want) {
        Store store = store();
        Check.type(store, text);
        if (want < 0) {
            Check.plain("execute of \"" + text + "\"", store, want, () -> store.execute());
        } else {
            Check.undoable("execute of \"" + text + "\"", store, want, () -> store.execute());
        }
    }

    private void appendRange() {
        sentence(19, "`value`: the byte, 0 to 127");
        for (int first = 0; first < 128; first += 64) {
            Store store = store();
            for (int i = 0; i < 64; i++) {
                Check.due("append(" + (first + i) + ")", i + 1, store.append(first + i));
            }
        }
        Store store = store();
        for (int bad : Check.outside(128)) {
            Check.refused("append(" + bad + ")", store, -2, () -> store.append(bad));
        }
        Check.due("append(0)", 1, store.append(0));
        Check.due("append(127)", 2, store.append(127));
        Check.due("execute of byte 0", -10, store.execute());
    }

    private void appendLength() {
        sentence(19, "Returns the new length of the text");
        Store store = store();
        long before = store.digest();
        for (int i = 1; i <= 100; i++) {
            Check.due("append number " + i, i, store.append(i));
        }
        Check.due("digest() after 100 bytes, which save no state", before + 31 * 100, store.digest());
    }

    private void appendOutOfRangeFirst() {
        sentence(19, "OUT_OF_RANGE if value is out of range (checked first)");
        Store store = store();
        Check.type(store, " ".repeat(100));
        for (int bad : Check.outside(128)) {
            Check.refused("append(" + bad + ") to a full text", store, -2, () -> store.append(bad));
        }
    }

    private void appendFull() {
        sentence(19, "FULL if the text has 100 bytes.");
        Store store = store();
        Check.type(store, "f0;".repeat(33));
        Check.due("append(32), the 100th byte", 100, store.append(32));
        Check.refused("append(59), the 101st byte", store, -4, () -> store.append(59));
        Check.refused("append(0), the 101st byte", store, -4, () -> store.append(0));
        Check.refused("append(127), the 101st byte", store, -4, () -> store.append(127));
        Check.due("execute() of the 100 bytes", 33, store.execute());
        Check.due("undo(), which gives no room", 0, store.undo());
        Check.refused("append(32) after undo()", store, -4, () -> store.append(32));
        Check.due("clearText()", 100, store.clearText());
        Check.due("append(32) after clearText()", 1, store.append(32));
    }

    private void clearEmpties() {
        sentence(20, "Empties the command text.");
        Store store = store();
        Check.due("execute before", 2, Check.run(store, "w0 0 0 5;f0;"));
        long before = store.digest();
        Check.due("clearText()", 12, store.clearText());
        Check.due("digest() after clearText(), which saves no state", before - 31 * 12, store.digest());
        Check.plain("execute() of the emptied text", store, -10, () -> store.execute());
        Check.due("append('f')", 1, store.append('f'));
        Check.plain("execute() with nothing left behind the new byte", store, -11, () -> store.execute());
        store.append('1');
        store.append(';');
        Check.due("execute() of the new text", 1, store.execute());
        Check.due("writes()", 1, store.writes());
        store.undo();
        Check.due("clearText() after undo(), which brings no text back", 3, store.clearText());
    }

    private void clearLength() {
        sentence(20, "Returns the length that the text had.");
        Store store = store();
        Check.plain("clearText() of an empty text", store, 0, () -> store.clearText());
        store.append(0);
        Check.due("clearText() of one byte", 1, store.clearText());
        Check.due("clearText() again", 0, store.clearText());
        Check.type(store, " ".repeat(100));
        store.append(32);
        Check.due("clearText() of a full text", 100, store.clearText());
        store.append(128);
        Check.due("clearText() after a refused byte", 0, store.clearText());
    }

    private void textHasAtMostHundredBytes() {
        rule("The text has at most 100 bytes.", 19, 21);
        answers(" ".repeat(97) + "f3;", 1);
        answers(" ".repeat(98) + "f3", -110);
        answers("w0 0 0 99;".repeat(10), 10);
        answers("w0 0 0 99;".repeat(9) + "w0 0 0 999", -109);
        Store store = store();
        Check.type(store, "f0;".repeat(33) + "x;");
        Check.due("execute of 101 bytes, of which the last was refused", -109, store.execute());
        Check.due("errorCount(-4)", 1, store.errorCount(-4));
    }

    private void commandsEndWithSemicolon() {
        rule("It is a sequence of commands, each terminated by a semicolon:", 21);
        for (String command : KINDS) {
            int length = command.length();
            String bare = command.substring(0, length - 1);
            answers(command, 1);
            answers(bare, -10 - (length - 1));
            answers(bare + " ", -10 - length);
            answers(command + bare, -10 - (2 * length - 1));
            answers(bare + command, -10 - (length - 1));
            answers(bare + " " + command, -10 - length);
            answers(command + ";", -10 - length);
            answers(";" + command, -10);
            answers(command + " ;", -10 - (length + 1));
            answers(command + "0", -10 - length);
            answers(bare + ",", -10 - (length - 1));
        }
        answers(String.join("", KINDS), 5);
    }

    private void commandsAreAsTheMethods() {
        rule("\"g client guarantees\" (as setGuarantees), \"r client replica key\" (as read), "
                + "\"w client replica key value\" (as write), \"s from to\" (as sync), \"f client\" (as forget).",
                2, 3, 6, 7, 8, 21);
        sameAs("g0 0;", store -> store.setGuarantees(0, 0));
        sameAs("g3 15;", store -> store.setGuarantees(3, 15));
        sameAs("r0 0 0;", store -> store.read(0, 0, 0));
        sameAs("r3 2 1;", store -> store.read(3, 2, 1));
        sameAs("r1 2 3;", store -> store.read(1, 2, 3));
        sameAs("w0 0 0 0;", store -> store.write(0, 0, 0, 0));
        sameAs("w3 2 1 99;", store -> store.write(3, 2, 1, 99));
        sameAs("w1 2 3 42;", store -> store.write(1, 2, 3, 42));
        sameAs("s0 2;", store -> store.sync(0, 2));
        sameAs("s2 0;", store -> store.sync(2, 0));
        sameAs("f0;", store -> store.forget(0));
        sameAs("f3;", store -> store.forget(3));
    }

    /** The command, alone in a text, must do what the call does, in a store where each call matters. */
    private void sameAs(String command, ToIntFunction<Store> call) {
        Store byText = store();
        Store byCall = store();
        for (Store store : new Store[] {byText, byCall}) {
            for (int i = 0; i < 12; i++) {
                store.write(i % 4, i % 3, i % 4, i);
                store.read(i % 4, i % 3, 0);
            }
        }
        Check.due("execute of \"" + command + "\"", 1, Check.run(byText, command));
        byText.clearText();
        Check.holds("the call of \"" + command + "\" succeeds", call.applyAsInt(byCall) >= 0);
        Check.due("digest() after \"" + command + "\"", byCall.digest(), byText.digest());
        for (int i = 0; i < 4; i++) {
            Check.due("undo() after \"" + command + "\"", byCall.undo(), byText.undo());
            Check.due("digest() after undo()", byCall.digest(), byText.digest());
        }
    }

    private void numbersHaveOneOrTwoDigits() {
        rule("A number has 1 or 2 digits.", 21);
        answers("g00 09;r01 02 03;w00 00 01 09;s00 01;f03;", 5);
        answers("g0 0;r0 0 0;w0 0 0 0;s1 0;f0;", 5);
        answers("w0 0 0 99;", 1);
        for (String command : KINDS) {
            answers(command.charAt(0) + ";", -11);
            answers(command.charAt(0) + " ;", -12);
        }
        answers("g0;", -12);
        answers("g0 ;", -13);
        answers("s0;", -12);
        answers("r0 0;", -14);
        answers("r0;", -12);
        answers("w0 0 0;", -16);
        answers("w0 0;", -14);
        answers("w0;", -12);
        answers("f0 0;", -13);
        answers("g0 0 0;", -15);
        answers("s0 1 0;", -15);
        answers("r0 0 0 0;", -17);
        answers("w0 0 0 0 0;", -19);
        Store store = store();
        Check.due("execute of numbers with a 0 before them", 1, Check.run(store, "w01 02 03 07;"));
        Check.due("peek(2, 3), of which 07 is 7", 7, store.peek(2, 3));
        Check.due("execute of two digits", 1, Check.run(store, "w1 2 3 70;"));
        Check.due("peek(2, 3), of which 70 is 70", 70, store.peek(2, 3));
    }

    private void spacesAnywhere() {
        rule("Spaces (byte 32) may stand anywhere except inside a number;", 21);
        String text = String.join("", KINDS);
        for (int place = 0; place <= text.length(); place++) {
            String spaced = text.substring(0, place) + "  " + text.substring(place);
            boolean inside = place > 0 && place < text.length()
                    && Character.isDigit(text.charAt(place - 1)) && Character.isDigit(text.charAt(place));
            // Both numbers of two digits are the last of their commands, so their second digit is one too many.
            answers(spaced, inside ? -10 - (place + 2) : 5);
        }
        answers("  g  0  15  ;  f  3  ;  ", 2);
        answers("g0 1 5;", -15);
        answers("f0\t;", -12);
        answers("f\n0;", -11);
    }

    private void spacesRequired() {
        rule("they are required only between two numbers.", 21);
        answers("g015;", -13);
        answers("g01;", -13);
        answers("s01;", -13);
        answers("r01 2;", -15);
        answers("r0 12;", -15);
        answers("r012;", -13);
        answers("w0 0 012;", -17);
        answers("w00 0 1;", -17);
        answers("w0 00 1;", -17);
        answers("w0 0 01;", -17);
        answers("g0 15;r1 2 3;w0 0 1 42;s0 1;f3;", 5);
    }

    private void atLeastOneCommand() {
        rule("The text must contain at least one command.", 21);
        answers("", -10);
        answers(" ", -11);
        answers("  ", -12);
        answers(" ".repeat(99), -109);
        answers(" ".repeat(100), -110);
        answers(";", -10);
        answers(" ;", -11);
    }

    private void firstByteThatCannotStand() {
        rule("The syntax error position is the index of the first byte that cannot stand where it stands", 21);
        String text = "f0;w1 2 3 45;";
        String letter = " grwsf";
        String digit = " 0123456789";
        String digitOrEnd = " 0123456789;";
        String end = " ;";
        String[] allowed = {letter, digit, digitOrEnd, letter, digit, digit, digit, digit, digit, digit, digit,
            digitOrEnd, end};
        for (int place = 0; place < text.length(); place++) {
            for (char sign = 0; sign < 128; sign++) {
                if (allowed[place].indexOf(sign) < 0) {
                    answers(text.substring(0, place) + sign + text.substring(place + 1), -10 - place);
                }
            }
        }
        answers("xy", -10);
        answers("f0;xf0;x", -13);
        answers("G0 1;", -10);
        answers("f-1;", -11);
        answers("f+1;", -11);
    }

    private void thirdDigit() {
        rule("(the third digit of a number is such a byte)", 21);
        answers("f000;", -13);
        answers("f 123;", -14);
        answers("f123", -13);
        answers("g000 1;", -13);
        answers("g0 015;", -15);
        answers("s000 1;", -13);
        answers("s0 001;", -15);
        answers("r000 1 2;", -13);
        answers("r0 001 2;", -15);
        answers("r0 1 002;", -17);
        answers("w000 0 0 1;", -13);
        answers("w0 000 0 1;", -15);
        answers("w0 0 000 1;", -17);
        answers("w0 0 0 100;", -19);
        answers("w0 0 0 001;", -19);
    }

    private void endsTooEarly() {
        rule("or the length of the text if the text ends too early.", 21);
        String text = " " + String.join(" ", KINDS);
        int commands = 0;
        for (int length = 0; length <= text.length(); length++) {
            String part = text.substring(0, length);
            commands += part.endsWith(";") ? 1 : 0;
            boolean whole = commands > 0 && (part.endsWith(";") || part.endsWith("; "));
            answers(part, whole ? commands : -10 - length);
        }
    }

    private void executesInOrder() {
        sentence(21, "Executes the commands of the command text in order.");
        Store store = store();
        Check.due("execute", 6, Check.run(store, "w0 0 0 1;s0 1;w0 0 0 2;s0 2;w0 0 0 3;f0;"));
        Check.due("peek(1, 0)", 1, store.peek(1, 0));
        Check.due("peek(2, 0)", 2, store.peek(2, 0));
        Check.due("peek(0, 0)", 3, store.peek(0, 0));
        Check.due("writeCount(0, 0)", 0, store.writeCount(0, 0));
        Check.due("execute", 4, Check.run(store, "g1 1;g1 2;f1;r1 1 0;"));
        Check.due("setGuarantees(1, 0)", 2, store.setGuarantees(1, 0));
        Check.due("readCount(1, 0)", 1, store.readCount(1, 0));
    }

    private void textStays() {
        sentence(21, "The text stays as it is.");
        Store store = store();
        Check.due("execute()", 1, Check.run(store, "w0 0 0 5;"));
        Check.due("execute() again", 1, store.execute());
        Check.due("writes()", 2, store.writes());
        store.append('s');
        Check.due("execute() of a text that ends too early", -20, store.execute());
        Check.due("execute() of it again", -20, store.execute());
        for (char sign : "1 1;".toCharArray()) {
            store.append(sign);
        }
        Check.due("execute() that stops", -1001, store.execute());
        Check.due("execute() that stops, again", -1001, store.execute());
        Check.due("clearText()", 14, store.clearText());
    }

    private void parsedFirst() {
        sentence(21, "First the whole text is parsed; if it has a syntax error, nothing is executed.");
        answers("w0 0 0 5;w0 1 0 5;f", -29);
        answers("w0 0 0 5;g1 15;s0 1;x", -30);
        answers("f4;x", -13);
        answers("s1 1;f0", -17);
        answers("w0 0 0 5;g0 16;f000;", -28);
        Store store = store();
        Check.type(store, "w0 0 0 5;;");
        Check.plain("execute()", store, -19, () -> store.execute());
        Check.due("writes()", 0, store.writes());
    }

    private void stopsAtOutOfRange() {
        sentence(21, "If a command returns OUT_OF_RANGE or FULL, the execution stops and everything becomes as it was "
                + "before the call.");
        String[] stops = {"g4 0;", "g99 0;", "g0 16;", "g0 99;", "f4;", "f99;", "s3 0;", "s0 3;", "s99 99;", "s0 0;",
            "s1 1;", "s2 2;", "r4 0 0;", "r0 3 0;", "r0 0 4;", "r99 99 99;", "w4 0 0 0;", "w0 3 0 0;", "w0 0 4 0;"};
        for (String stop : stops) {
            answers(stop, -1000);
            answers(stop + "w0 0 0 1;", -1000);
            answers("w0 0 0 1;" + stop + "w0 0 0 1;", -1001);
        }
        Store store = store();
        store.write(0, 0, 0, 1);
        store.write(0, 1, 0, 2);
        store.read(1, 0, 0);
        store.setGuarantees(1, 6);
        store.sync(0, 2);
        Check.type(store, "w0 2 0 9;r0 1 0;s2 0;f1;g1 1;w3 1 3 3;s1 0;f4;f2;");
        Check.plain("execute() that has changed everything", store, -1007, () -> store.execute());
        Check.due("write(0, 2, 0, 8), where the text wrote", 1, store.write(0, 2, 0, 8));
        Check.due("peek(2, 0)", 8, store.peek(2, 0));
        Check.due("undo() of the write", 3, store.undo());
        Check.due("undo() of the sync before the text", 2, store.undo());
        Check.due("count(2, 0)", 0, store.count(2, 0));
    }

    private void stopsAtFull() {
        sentence(21, "If a command returns OUT_OF_RANGE or FULL, the execution stops");
        Store store = store();
        for (int i = 0; i < 59; i++) {
            store.write(0, 0, 0, i);
        }
        Check.type(store, "w1 1 0 1;w2 2 0 2;f0;");
        Check.plain("execute() of two writes with room for one", store, -1001, () -> store.execute());
        Check.due("writes()", 59, store.writes());
        Check.due("execute() of one write", 2, Check.run(store, "f3;w1 1 0 1;"));
        Check.due("writes()", 60, store.writes());
        Check.type(store, "w1 1 0 1;");
        Check.plain("execute() of a write to a full store", store, -1000, () -> store.execute());
        Check.type(store, "g0 8;w0 2 0 1;w1 1 0 1;");
        Check.plain("execute(), the first write not allowed, the second FULL", store, -1002, () -> store.execute());
        Check.type(store, "w0 0 4 1;");
        Check.plain("execute(), out of range and full", store, -1000, () -> store.execute());
    }

    private void skipsNotAllowed() {
        sentence(21, "A command that returns NOT_ALLOWED is skipped.");
        Store store = store();
        store.setGuarantees(0, 15);
        store.write(0, 0, 0, 1);
        Check.type(store, "r0 1 0;w0 1 0 9;");
        Check.undoable("execute() of skipped commands alone", store, 0, () -> store.execute());
        Check.due("execute() with skipped ones between", 3, Check.run(store, "r0 2 0;s0 1;w0 2 0 9;r0 1 0;f1;"));
        Check.due("writes()", 1, store.writes());
        Check.due("readCount(0, 0)", 1, store.readCount(0, 0));
        Check.due("breaches(0)", 0, store.breaches(0));
        Check.due("errorCount(-3)", 0, store.errorCount(-3));
        Check.due("execute(), skipped first and last", 1, Check.run(store, "w0 2 0 9;f2;w0 2 0 9;"));
    }

    private void savesOneState() {
        sentence(21, "Undoable if the execution was not stopped: it saves one state for all commands, and the commands "
                + "save no states of their own.");
        Store store = store();
        store.setGuarantees(3, 7);
        Check.type(store, "w0 0 0 1;w0 0 0 2;w0 0 0 3;s0 1;s1 2;r1 2 0;g3 1;f0;");
        Check.undoable("execute() of eight commands", store, 8, () -> store.execute());
        Check.due("undo() of execute()", 1, store.undo());
        Check.due("writes() after undo()", 0, store.writes());
        Check.due("setGuarantees(3, 7) after undo()", 7, store.setGuarantees(3, 7));
        Check.type(store, "f0;");
        Check.undoable("execute() that changes nothing", store, 1, () -> store.execute());
        for (int i = 0; i < 6; i++) {
            Check.undoable("execute() again and again", store, 1, () -> store.execute());
        }
        for (int i = 3; i >= 0; i--) {
            Check.due("undo() of one of them", i, store.undo());
        }
    }

    private void savesNoState() {
        sentence(21, "If there is a syntax error or the execution was stopped, no state is saved.");
        Store none = store();
        Check.run(none, "w0 0 0 1;f4;");
        Check.refused("undo() after a stop", none, -6, () -> none.undo());
        Check.run(none, "w0 0 0 1;f");
        Check.refused("undo() after a syntax error", none, -6, () -> none.undo());
        Store four = store();
        for (int i = 1; i <= 4; i++) {
            four.write(0, 0, 0, i);
        }
        for (int i = 0; i < 5; i++) {
            Check.run(four, "w0 0 0 9;f4;");
            Check.run(four, "w0 0 0 9;f");
        }
        for (int i = 3; i >= 0; i--) {
            Check.due("undo() of a write before stops and syntax errors", i, four.undo());
            Check.due("writes() after undo()", i, four.writes());
        }
    }

    private void numberNotSkipped() {
        sentence(21, "Returns the number of commands that were not skipped");
        answers("f0;", 1);
        answers("f0;".repeat(33), 33);
        answers("f0;".repeat(33) + " ", 33);
        answers("r0 1 2;".repeat(14), 14);
        Store store = store();
        store.write(0, 0, 0, 1);
        store.setGuarantees(0, 1);
        Check.due("execute() where all are skipped", 0, Check.run(store, "r0 1 0;".repeat(14)));
        Check.due("execute() where one is not", 1, Check.run(store, "r0 1 0;r0 0 0;r0 2 0;"));
    }

    private void syntaxErrorPosition() {
        sentence(21, "-10 minus the syntax error position if there is a syntax error");
        answers("", -10);
        answers("x", -10);
        answers("f", -11);
        answers("f0;".repeat(33) + "f", -110);
        answers("f0;".repeat(33) + "w", -110);
        answers("f0;".repeat(33) + ";", -109);
        answers("f0;".repeat(33) + "1", -109);
        answers("f0;".repeat(32) + "f00;", 33);
        answers("f0;".repeat(32) + "f000", -109);
    }

    private void indexOfStop() {
        sentence(21, "-1000 minus the index of the command (0 for the first) that stopped the execution.");
        for (int index = 0; index < 33; index++) {
            answers("f0;".repeat(index) + "f4;" + "f0;".repeat(32 - index), -1000 - index);
        }
        answers("f4;f4;", -1000);
        Store store = store();
        store.write(0, 0, 0, 1);
        store.setGuarantees(0, 1);
        Check.due("execute(), where skipped commands have an index too", -1002, Check.run(store, "r0 1 0;r0 2 0;f4;"));
    }

    private void notCounted() {
        sentence(21, "These results are not counted as errors.");
        Store store = store();
        Check.fill(store);
        int[] wanted = {-10, -11, -1000, -1000, 1};
        String[] texts = {"", "f", "w0 0 0 0;", "f9;", "g3 15;w3 0 0 0;r3 0 0;"};
        for (int i = 0; i < texts.length; i++) {
            Check.due("execute of \"" + texts[i] + "\"", wanted[i], Check.run(store, texts[i]));
            for (int code = -6; code <= -2; code++) {
                Check.due("errorCount(" + code + ") after \"" + texts[i] + "\"", 0, store.errorCount(code));
            }
        }
    }
}
