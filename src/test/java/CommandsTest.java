/** Promises 19 to 21: append, clearText and execute. */
public final class CommandsTest {
    public static void main(String[] args) {
        appends();
        appendsUpToHundred();
        appendOutOfRange();
        clears();
        executesEachCommand();
        executesAsTheMethodsDo();
        wellFormedTexts();
        badlyFormedTexts();
        everyByteAtEveryPlace();
        longestTexts();
        stops();
        stopTakesEverythingBack();
        stopsWhenFull();
        skips();
        savesOneState();
        savesNoState();
        countsNoErrors();
        textStays();
        Check.end();
    }

    private static void appends() {
        Store store = new Store();
        Check.due("append(0)", 1, store.append(0));
        Check.due("append(127)", 2, store.append(127));
        Check.due("append(59)", 3, store.append(59));
        Check.due("undo() after append", -6, store.undo());
        Check.due("clearText()", 3, store.clearText());
    }

    private static void appendsUpToHundred() {
        Store store = new Store();
        for (int i = 1; i <= 100; i++) {
            Check.due("append number " + i, i, store.append(32));
        }
        Check.refused("append number 101", store, -4, () -> store.append(32));
        Check.refused("append(128) is out of range first", store, -2, () -> store.append(128));
        Check.due("clearText() of a full text", 100, store.clearText());
        Check.due("append(32) after clearText()", 1, store.append(32));
    }

    private static void appendOutOfRange() {
        Store store = new Store();
        store.append(32);
        for (int bad : Check.outside(128)) {
            Check.refused("append(" + bad + ")", store, -2, () -> store.append(bad));
        }
        Check.due("clearText() after errors", 1, store.clearText());
    }

    private static void clears() {
        Store store = new Store();
        Check.due("clearText() of an empty text", 0, store.clearText());
        Check.type(store, "f0;f1");
        Check.due("clearText()", 5, store.clearText());
        Check.due("clearText() again", 0, store.clearText());
        Check.due("undo() after clearText", -6, store.undo());
        Check.due("execute() of the emptied text", -10, store.execute());
        Check.due("a text typed over a longer one", 1, Check.run(store, "f2;"));
    }

    private static void executesEachCommand() {
        Store store = new Store();
        Check.due("execute g", 1, Check.run(store, "g 2 13;"));
        Check.due("execute w", 1, Check.run(store, "w 1 2 3 99;"));
        Check.due("execute s", 1, Check.run(store, "s 2 1;"));
        Check.due("execute r", 1, Check.run(store, "r 3 1 0;"));
        Check.due("peek(1, 3) after w and s", 99, store.peek(1, 3));
        Check.due("writeCount(1, 2) after w", 1, store.writeCount(1, 2));
        Check.due("readCount(3, 2) after r", 1, store.readCount(3, 2));
        Check.due("execute f", 1, Check.run(store, "f 3;"));
        Check.due("readCount(3, 2) after f", 0, store.readCount(3, 2));
        Check.due("setGuarantees(2, 0) after g", 13, store.setGuarantees(2, 0));
    }

    private static void executesAsTheMethodsDo() {
        Store byText = new Store();
        Check.due("execute of a mixed text", 8,
                Check.run(byText, "g0 6;w0 0 1 7;w0 1 1 8;r0 0 1;s0 1;r0 1 1;w1 2 0 0;f1;"));
        Store byCalls = new Store();
        byCalls.setGuarantees(0, 6);
        byCalls.write(0, 0, 1, 7);
        byCalls.write(0, 1, 1, 8);
        byCalls.read(0, 0, 1);
        byCalls.sync(0, 1);
        byCalls.read(0, 1, 1);
        byCalls.write(1, 2, 0, 0);
        byCalls.forget(1);
        byText.clearText();
        Check.due("digest() by text, with one state saved instead of four", byCalls.digest() - 3, byText.digest());
    }

    private static void wellFormedTexts() {
        Store store = new Store();
        Check.due("no spaces but between numbers", 2, Check.run(store, "g0 1;f0;"));
        Check.due("spaces everywhere", 2, Check.run(store, "  g  0   1  ;  f  0  ;  "));
        Check.due("two digits", 2, Check.run(store, "g00 01;w03 02 03 99;"));
        Check.due("a number of two digits before the semicolon", 1, Check.run(store, "g3 15;"));
    }

    private static void badlyFormedTexts() {
        Object[][] texts = {
            {"", 0}, {" ", 1}, {"   ", 3}, {";", 0}, {" ;", 1}, {"0", 0}, {"x0;", 0}, {"F0;", 0},
            {"f", 1}, {"f ", 2}, {"f0", 2}, {"f0 ", 3}, {"f00", 3}, {"f000;", 3}, {"f0 0;", 3}, {"f0 0", 3},
            {"f;", 1}, {"f ;", 2}, {"f0;;", 3}, {"f0; ;", 4}, {"f0;f", 4}, {"f0;0", 3}, {"f0; 0", 4},
            {"f0f0;", 2}, {"f0 f", 3}, {"ff0;", 1}, {"f-1;", 1}, {"f0,", 2}, {"f0\t;", 2}, {"f\n0;", 1},
            {"g0;", 2}, {"g0 ;", 3}, {"g0 1", 4}, {"g0 12 ", 6}, {"g0 123;", 5}, {"g01;", 3}, {"g012;", 3},
            {"g0 1 2;", 5}, {"g0 1f0;", 4}, {"g 0", 3}, {"g", 1}, {"g0", 2},
            {"s0;", 2}, {"s0 1 2;", 5}, {"s0 1 ", 5}, {"s 0 1", 5},
            {"r0 0;", 4}, {"r0 0 0 0;", 7}, {"r0 0 0", 6}, {"r0 0 ", 5}, {"r;", 1}, {"r0 00 000;", 8},
            {"w0 0 0;", 6}, {"w0 0 0 0 0;", 9}, {"w0 0 0 100;", 9}, {"w0 0 0 ", 7}, {"w0 0 0 99", 9},
            {"w0 0 0 9 9;", 9}, {"f9;g", 4}, {"f9;x", 3}, {"f0;w0 0 0 1;q", 12},
        };
        Store store = new Store();
        int calls = 0;
        for (Object[] row : texts) {
            String text = (String) row[0];
            if (calls + text.length() + 4 > 500) {
                store = new Store();
                calls = 0;
            }
            calls += text.length() + 4;
            Check.type(store, text);
            Store current = store;
            Check.plain("execute of \"" + text + "\"", store, -10 - (Integer) row[1], () -> current.execute());
        }
    }

    /** Every byte, put over each byte of a text, stops the parse there unless it may stand there. */
    private static void everyByteAtEveryPlace() {
        String text = " g0 1 ;";
        String[] allowed = {" grwsf", " grwsf", " 0123456789", " 0123456789", " 0123456789", " ;0123456789", " ;"};
        for (int place = 0; place < text.length(); place++) {
            for (char sign = 0; sign < 128; sign++) {
                if (allowed[place].indexOf(sign) < 0) {
                    Store store = new Store();
                    String changed = text.substring(0, place) + sign + text.substring(place + 1);
                    Check.due("execute with byte " + (int) sign + " at " + place, -10 - place,
                            Check.run(store, changed));
                }
            }
        }
    }

    private static void longestTexts() {
        Store store = new Store();
        Check.due("33 commands", 33, Check.run(store, "f0;".repeat(33)));
        Check.due("33 commands and a space", 33, Check.run(store, "f0;".repeat(33) + " "));
        Check.due("33 commands and a letter", -110, Check.run(store, "f0;".repeat(33) + "w"));
        Check.due("33 commands and a wrong byte", -109, Check.run(store, "f0;".repeat(33) + "1"));
        Store other = new Store();
        Check.due("100 spaces", -110, Check.run(other, " ".repeat(100)));
        Check.due("a command at the end of 100 bytes", 1, Check.run(other, " ".repeat(97) + "f3;"));
        Check.due("the last of 33 commands stops", -1032, Check.run(other, "f0;".repeat(32) + "f4;"));
    }

    private static void stops() {
        String[] commands = {
            "g4 0;", "g0 16;", "g99 0;", "f4;", "f10;", "s3 0;", "s0 3;", "s1 1;",
            "r4 0 0;", "r0 3 0;", "r0 0 4;", "w4 0 0 0;", "w0 3 0 0;", "w0 0 4 0;",
        };
        for (String command : commands) {
            Store store = new Store();
            Check.type(store, command);
            Check.plain("execute of " + command, store, -1000, () -> store.execute());
            Check.type(store, "w0 0 0 9;g1 3;" + command + "w0 0 0 8;x");
            Check.plain("a wrong byte comes before the stop at " + command, store, -10 - 23 - command.length(),
                    () -> store.execute());
            Check.type(store, "w0 0 0 9;g1 3;" + command + "w0 0 0 8;");
            Check.plain("execute with third command " + command, store, -1002, () -> store.execute());
        }
    }

    private static void stopTakesEverythingBack() {
        Store store = new Store();
        store.write(0, 0, 0, 1);
        store.write(0, 0, 1, 2);
        store.read(0, 0, 0);
        store.setGuarantees(1, 6);
        store.sync(0, 1);
        Check.type(store, "w0 0 0 50;w0 2 1 60;r0 1 0;r0 2 0;s2 1;f0;g1 1;w2 1 3 3;s1 1;");
        Check.plain("execute that stops at the end", store, -1008, () -> store.execute());
        Check.due("peek(0, 0) after the stop", 1, store.peek(0, 0));
        Check.due("write after the stop", 3, store.write(0, 0, 0, 70));
        Check.due("peek(0, 0) after a write behind the stop", 70, store.peek(0, 0));
        Check.due("undo() after the stop", 3, store.undo());
        Check.due("undo() of sync, saved before the stop", 2, store.undo());
        Check.due("count(1, 0)", 0, store.count(1, 0));
    }

    private static void stopsWhenFull() {
        Store store = new Store();
        for (int i = 0; i < 58; i++) {
            store.write(0, 0, 0, i);
        }
        Check.type(store, "w1 1 0 1;w1 1 0 2;w1 1 0 3;");
        Check.plain("execute of three writes with room for two", store, -1002, () -> store.execute());
        Check.due("writes() after the stop", 58, store.writes());
        Check.due("execute of two writes", 2, Check.run(store, "w1 1 0 1;w1 1 0 2;"));
        Check.due("writes() after execute", 60, store.writes());
        Check.due("execute of a write to a full store", -1000, Check.run(store, "w1 1 0 1;"));
        Check.due("a write that is not allowed is skipped in a full store", 2,
                Check.run(store, "g1 8;w1 0 0 1;f3;"));
    }

    private static void skips() {
        Store store = new Store();
        store.setGuarantees(0, 15);
        store.write(0, 0, 0, 1);
        Check.type(store, "r0 1 0;w0 1 0 2;");
        Check.undoable("execute of skipped commands alone", store, 0, () -> store.execute());
        Check.due("execute with skipped ones among others", 3,
                Check.run(store, "r0 1 0;s0 1;w0 2 0 2;r0 1 0;w0 1 0 5;r0 2 0;"));
        Check.due("peek(1, 0) after skips", 5, store.peek(1, 0));
        Check.due("writes() after skips", 2, store.writes());
        Check.due("errorCount(-3) after skips", 0, store.errorCount(-3));
        Check.due("breaches(0) after skips", 0, store.breaches(0));
    }

    private static void savesOneState() {
        Store store = new Store();
        store.setGuarantees(3, 7);
        Check.type(store, "w0 0 0 1;w0 0 0 2;w0 0 0 3;s0 1;s1 2;r1 2 0;g3 1;f0;");
        Check.undoable("execute of eight commands", store, 8, () -> store.execute());
        Check.due("undo() of execute", 1, store.undo());
        Check.due("writes() after undo()", 0, store.writes());
        Check.due("undo() of setGuarantees", 0, store.undo());
        Check.due("undo() of nothing", -6, store.undo());
    }

    private static void savesNoState() {
        Store store = new Store();
        Check.run(store, "f0;f4;");
        Check.due("undo() after a stop", -6, store.undo());
        Check.run(store, "f0;f");
        Check.due("undo() after a syntax error", -6, store.undo());
        for (int i = 1; i <= 4; i++) {
            store.write(0, 0, 0, i);
        }
        Check.run(store, "f0;f4;");
        Check.run(store, "f0;f");
        for (int i = 3; i >= 0; i--) {
            Check.due("undo() of a write before a stop", i, store.undo());
            Check.due("writes() after undo()", i, store.writes());
        }
    }

    private static void countsNoErrors() {
        Store store = new Store();
        Check.fill(store);
        Check.run(store, "w0 0 0 0;");
        Check.run(store, "f9;");
        Check.run(store, "g3 15;w3 0 0 0;");
        Check.run(store, "q");
        for (int code = -6; code <= -2; code++) {
            Check.due("errorCount(" + code + ") after executions", 0, store.errorCount(code));
        }
    }

    private static void textStays() {
        Store store = new Store();
        Check.type(store, "w0 0 0 5;");
        Check.due("execute()", 1, store.execute());
        Check.due("execute() again", 1, store.execute());
        Check.due("writes()", 2, store.writes());
        Check.due("append behind an executed text", 10, store.append('f'));
        Check.due("execute() of the longer text", -20, store.execute());
        store.undo();
        Check.due("clearText(), which undo leaves alone", 10, store.clearText());
    }
}
