/** The boundary cases of programs, and of append, run and errorPosition. */
public final class ProgramEdgesTest {
    private static final String TWENTY_READS = "r0 r1 r2 r3 r4 r5 r6 r7 r0 r1 r2 r3 r4 r5 r6 r7 r0 r1 r2 r3";
    private static final String DIGITS = "0123456789";
    /** Where a character that goes on leads to: a whole program, or a text that must still go on. */
    private static final boolean WHOLE = true;
    private static final boolean BEGUN = false;

    public static void main(String[] args) {
        codes();
        sixtyCharacters();
        everyCharacter();
        emptyAndShortPrograms();
        spaces();
        numbers();
        errorAtTheEnd();
        operationsThatAbort();
        bufferAfterRun();
        tooManyOperations();
        keptErrorPosition();
        Script.end();
    }

    private static void codes() {
        Script.check("characters with codes from 32 to 126", Script.numbered(32, 91, "append(%1$d): _; "), "append(32): !IllegalState; "
                + "begin(0): 0; run(0): !IllegalArgument; errorPosition(): 0");
        Script.check("codes from 32 to 126: the upper ones", Script.numbered(92, 126, "append(%1$d): _; "), "append(32): 36");
        for (int code : new int[] {0, 1, 9, 10, 31, 127, 128, 160, 255, 256, 32 + 256, 65535}) {
            Script.refused("the code is not from 32 to 126: " + code, "text('r0'): 2", "append(" + code + "): !IllegalArgument");
        }
        Script.check("Returns the number of characters in the buffer", "append(32): 1; append(126): 2; append(127): !IllegalArgument; "
                + "append(31): !IllegalArgument; append(99): 3");
    }

    private static void sixtyCharacters() {
        String fiftyNine = TWENTY_READS;
        Script.check("The input buffer holds up to 60 characters", "text('" + fiftyNine + "'): 59; append(32): 60; "
                + "append(32): !IllegalState; append(99): !IllegalState");
        Script.refused("the buffer has 60 characters", "text('" + "w0=1 ".repeat(11) + "w7=12'): 60", "append(51): !IllegalState; "
                + "append(32): !IllegalState; append(126): !IllegalState");
        Script.refused("the code is looked at before the room", "text('" + "w0=1 ".repeat(11) + "w7=12'): 60",
                "append(31): !IllegalArgument; append(127): !IllegalArgument");
        Script.check("a program of 60 characters is done", "begin(0): 0; text('" + "w0=1 ".repeat(11) + "w7=12'): 60; run(0): 12; "
                + "version(7, 1, 2): 12; append(99): 1");
        Script.check("a full buffer can be emptied by a refused run", "text('" + "q".repeat(60) + "'): 60; append(99): !IllegalState; "
                + "begin(0): 0; run(0): !IllegalArgument; append(99): 1");
        Script.check("reset and restore leave a full buffer", "snapshot(): 0; text('" + "r".repeat(60) + "'): 60; reset(0): 2; "
                + "append(99): !IllegalState; restore(): 0; append(99): !IllegalState");
    }

    /** Behind each of these beginnings, every character from 32 to 126 is tried. */
    private static void everyCharacter() {
        tryAllBehind("", "cx", "rwa");
        tryAllBehind("r", "01234567", "");
        tryAllBehind("r0", "", " ");
        tryAllBehind("r7 ", "cx", "rwa");
        tryAllBehind("w", "", "01234567");
        tryAllBehind("w3", "", "=");
        tryAllBehind("w3=", DIGITS, "-");
        tryAllBehind("w3=-", DIGITS, "");
        tryAllBehind("w3=1", DIGITS, " ");
        tryAllBehind("w3=12", DIGITS, " ");
        tryAllBehind("w3=123", DIGITS, " ");
        tryAllBehind("w3=1234", "", " ");
        tryAllBehind("w3=-123", DIGITS, " ");
        tryAllBehind("w3=-1234", "", " ");
        tryAllBehind("a", "", "01234567");
        tryAllBehind("a5", "", "+-");
        tryAllBehind("a5+", DIGITS, "");
        tryAllBehind("a5-", DIGITS, "");
        tryAllBehind("a5+000", DIGITS, " ");
        tryAllBehind("a5-0000", "", " ");
        tryAllBehind("c", "", "");
        tryAllBehind("x", "", "");
        tryAllBehind("r0 c", "", "");
        tryAllBehind("r0 x", "", "");
        tryAllBehind("r0 w1=2 a3+4", DIGITS, " ");
    }

    private static void tryAllBehind(String beginning, String toWhole, String toBegun) {
        for (char character = 32; character <= 126; character++) {
            String name = "behind '" + beginning + "' the character " + (int) character;
            String typed = typed(beginning) + "append(" + (int) character + "): " + (beginning.length() + 1) + "; ";
            if (toWhole.indexOf(character) >= 0) {
                checkTyped(name, typed, WHOLE, 0);
            } else if (toBegun.indexOf(character) >= 0) {
                checkTyped(name, typed, BEGUN, beginning.length() + 1);
            } else {
                checkTyped(name, typed, BEGUN, beginning.length());
            }
        }
    }

    private static String typed(String text) {
        return text.isEmpty() ? "begin(0): 0; " : "begin(0): 0; text('" + text + "'): " + text.length() + "; ";
    }

    private static void checkTyped(String name, String typed, boolean whole, int error) {
        String behind = whole ? "run(0): _; errorPosition(): !NoSuchElement; append(99): 1"
                : "run(0): !IllegalArgument; errorPosition(): " + error + "; transaction(0, 4): 0; eventCount(): 1; append(99): 1";
        Script.check(name, typed, behind);
    }

    private static void errorOf(String text, int position) {
        checkTyped("the error position of '" + text + "'", typed(text), BEGUN, position);
    }

    private static void emptyAndShortPrograms() {
        Script.check("program = [ end ]: the empty program", "begin(0): 0; run(0): 0; transaction(0, 0): 0; transaction(0, 4): 0; "
                + "eventCount(): 1; errorPosition(): !NoSuchElement");
        Script.check("program = [ end ]: c alone", "begin(0): 0; text('c'): 1; run(0): 0; transaction(0, 0): 2; eventCount(): 2; "
                + "event(1, 0): 5");
        Script.check("program = [ end ]: x alone", "begin(0): 0; text('x'): 1; run(0): 0; transaction(0, 0): 3; transaction(0, 3): 1; "
                + "eventCount(): 2; event(1, 0): 6");
        Script.check("the end of an earlier program is not that of a later one", "begin(0): 0; begin(0): 1; text('r1 c'): 4; run(0): 1; "
                + "text('r2 r3'): 5; run(1): 2; transaction(1, 0): 0; text('x'): 1; run(1): 0; restartNext(): 1; run(1): 0; "
                + "transaction(1, 0): 0");
        Script.check("a read of a program has the number 0", "begin(0): 0; text('w0=5 r0'): 7; run(0): 2; operation(0, 1, 2): 0; "
                + "operation(0, 1, 3): 5; text('r0'): 2; run(0): 1; operation(0, 2, 2): 0");
        Script.check("one operation without an end", "begin(0): 0; text('r7'): 2; run(0): 1; transaction(0, 0): 0; operation(0, 0, 0): 0; "
                + "operation(0, 0, 1): 7");
        Script.check("20 operations without an end", "begin(0): 0; text('" + TWENTY_READS + "'): 59; run(0): 20; transaction(0, 0): 0; "
                + "transaction(0, 4): 20; operation(0, 19, 1): 3; operation(0, 7, 1): 7");
        Script.check("a program can be put together by several runs", "begin(0): 0; text('w0=1'): 4; run(0): 1; text('a0+2'): 4; "
                + "run(0): 1; text('c'): 1; run(0): 0; valueAt(0, 1): 3; transaction(0, 4): 2");
    }

    private static void spaces() {
        errorOf(" ", 0);
        errorOf("  ", 0);
        errorOf(" c", 0);
        errorOf(" r0", 0);
        errorOf("r0 ", 3);
        errorOf("r0  ", 3);
        errorOf("r0  r1", 3);
        errorOf("r0 r1  c", 6);
        errorOf("r0 c ", 4);
        errorOf("c ", 1);
        errorOf("x x", 1);
        errorOf("r 0", 1);
        errorOf("w 0=1", 1);
        errorOf("w0 =1", 2);
        errorOf("w0= 1", 3);
        errorOf("w0=- 1", 4);
        errorOf("a0 +1", 2);
        errorOf("a0+ 1", 3);
        errorOf("a0+1 2", 5);
        errorOf("r0c", 2);
        errorOf("r0r1", 2);
        errorOf(TWENTY_READS + " ", 60);
    }

    private static void numbers() {
        Script.check("a number has 1 to 4 digits", """
                begin(0): 0; text('w0=0 w1=9 w2=10 w3=999 w4=1000 w5=9999 w6=-9999 w7=-1'): 53; run(0): 8; version(0, 1, 2): 0;
                version(1, 1, 2): 9;
                version(2, 1, 2): 10; version(3, 1, 2): 999; version(4, 1, 2): 1000; version(5, 1, 2): 9999; version(6, 1, 2): -9999;
                version(7, 1, 2): -1""");
        Script.check("Numbers can have leading zeros, and -0 is 0", """
                begin(0): 0; text('w0=0000 w1=0009 w2=-0 w3=-0000 w4=-0010 a5+0001 a6-0'): 52; run(0): 7; version(0, 1, 2): 0;
                version(1, 1, 2): 9;
                version(2, 1, 2): 0; version(3, 1, 2): 0; version(4, 1, 2): -10; version(5, 1, 2): 1; version(6, 1, 2): 0;
                operation(0, 2, 2): 0;
                operation(0, 5, 2): 1; operation(0, 6, 2): 0""");
        Script.check("for an addition of the number or of its negative", """
                begin(0): 0; text('a0+9999 a0-9999 a0-1 a0+0'): 25; run(0): 4; operation(0, 0, 2): 9999; operation(0, 1, 2): -9999;
                operation(0, 2, 2): -1;
                operation(0, 3, 2): 0; operation(0, 1, 3): 9999; operation(0, 3, 3): -1; version(0, 1, 2): -1""");
        errorOf("w0=00000", 7);
        errorOf("w0=-99999", 8);
        errorOf("a0+10000", 7);
        errorOf("a0-123456", 7);
        errorOf("r0 w0=12345 c", 10);
    }

    private static void errorAtTheEnd() {
        for (String text : new String[] {"r", "w", "a", "w0", "w0=", "w0=-", "a7", "a7+", "a7-", "r0 ", "r0 r", "r0 w7=-", "r0 a1-1 a"}) {
            errorOf(text, text.length());
        }
        errorOf("rr", 1);
        errorOf("r8", 1);
        errorOf("r9", 1);
        errorOf("w8", 1);
        errorOf("a8+1", 1);
        errorOf("w8 q", 1);
        errorOf("cc", 1);
        errorOf("cx", 1);
        errorOf("r0 cc", 4);
        errorOf("R0", 0);
        errorOf("r0 C", 3);
        errorOf("q".repeat(60), 0);
        errorOf(TWENTY_READS.substring(0, 57) + "r8 ", 58);
    }

    private static void operationsThatAbort() {
        String read = "begin(0): 0; begin(0): 1; begin(0): 2; read(1, 3): 0; ";
        Script.check("until one aborts it: the first", read, "text('w3=1 r0 r1 c'): 12; run(0): 1; transaction(0, 4): 1; "
                + "transaction(0, 0): 3; operation(0, 0, 0): 1; total(1): 1; total(5): 0");
        Script.check("until one aborts it: one in the middle", read, "text('r0 w3=1 r1 c'): 12; run(0): 2; transaction(0, 4): 2; "
                + "transaction(0, 0): 3; operation(0, 1, 2): 1; total(1): 2");
        Script.check("until one aborts it: the last, and then no end", read, "text('r0 r1 w3=1 c'): 12; run(0): 3; transaction(0, 4): 3; "
                + "transaction(0, 0): 3; total(5): 0; total(6): 1");
        Script.check("until one aborts it, and then no abort by the end", read, "text('a3+1 x'): 6; run(0): 1; transaction(0, 3): 1; "
                + "total(6): 1; eventCount(): 6; event(5, 2): 3");
        Script.check("the rest of the program is not in the list, also after a restart", read, "text('w3=1 r0 c'): 9; run(0): 1; "
                + "restartNext(): 0; transaction(0, 4): 1; transaction(0, 0): 0; versionCount(3): 2");
        Script.check("the buffer is empty after an abort", read, "text('w3=1 r0'): 7; run(0): 1; append(99): 1");
        Script.check("commit if the program says so: pending", read, "write(0, 0, 1): 0; text('r0 c'): 4; run(2): 1; transaction(2, 0): 1; "
                + "dependencies(2): 1");
    }

    private static void bufferAfterRun() {
        Script.check("The buffer is empty afterwards", "begin(0): 0; text('r0'): 2; run(0): 1; append(114): 1; append(49): 2; run(0): 1; "
                + "operation(0, 1, 1): 1; run(0): 0");
        Script.check("The buffer is empty afterwards, also if the text is no program", "begin(0): 0; text('r0 q'): 4; "
                + "run(0): !IllegalArgument; run(0): 0; append(99): 1; transaction(0, 4): 0");
        Script.check("The buffer is empty afterwards, also if there are too many operations", "begin(0): 0; text('" + TWENTY_READS
                + "'): 59; run(0): 20; text('r0'): 2; run(0): !UnsupportedOperation; run(0): 0; append(99): 1");
        Script.refused("the first two exceptions leave the buffer", "begin(0): 0; begin(0): 1; begin(0): 2; begin(0): 3; "
                + "write(0, 0, 1): 0; read(1, 0): 1; commit(1): false; commit(2): true; abort(3): 1; text('w1=7 c'): 6", """
                run(-1): !IndexOutOfBounds; run(4): !IndexOutOfBounds; run(16): !IndexOutOfBounds; run(MIN): !IndexOutOfBounds;
                run(MAX): !IndexOutOfBounds;
                run(1): !IllegalState; run(2): !IllegalState; run(3): !IllegalState""");
        Script.refused("they are checked before the text", "begin(0): 0; commit(0): true; text('q'): 1", "run(1): !IndexOutOfBounds; "
                + "run(0): !IllegalState; errorPosition(): !NoSuchElement");
    }

    private static void tooManyOperations() {
        String full = "begin(0): 0; text('" + TWENTY_READS + "'): 59; run(0): 20; ";
        Script.check("more than 20 operations: a full list takes an end", full, "text('c'): 1; run(0): 0; transaction(0, 0): 2; "
                + "transaction(0, 4): 20");
        Script.check("more than 20 operations: a full list takes the empty program", full, "run(0): 0; transaction(0, 0): 0");
        Script.check("more than 20 operations: 21", full, "text('r0 c'): 4; run(0): !UnsupportedOperation; transaction(0, 0): 0; "
                + "transaction(0, 4): 20; eventCount(): 21; errorPosition(): !NoSuchElement");
        Script.check("more than 20 operations: 1 and 19, 1 and 20", "begin(0): 0; read(0, 0): 0; text('" + TWENTY_READS + "'): 59; "
                + "run(0): !UnsupportedOperation; transaction(0, 4): 1; eventCount(): 2; text('"
                + TWENTY_READS.substring(0, 56) + "'): 56; run(0): 19; transaction(0, 4): 20");
        Script.check("if all of them were done: also if an earlier one would abort it", "begin(0): 0; begin(0): 1; read(1, 3): 0; "
                + "read(0, 0): 0; ".repeat(19),
                "text('w3=1 r0'): 7; run(0): !UnsupportedOperation; transaction(0, 0): 0; transaction(0, 4): 19; text('w3=1'): 4; "
                + "run(0): 1; transaction(0, 0): 3; transaction(0, 4): 20");
        Script.check("the text is looked at before the number of operations", full, "text('r0 r1q'): 6; run(0): !IllegalArgument; "
                + "errorPosition(): 5; transaction(0, 4): 20");
    }

    private static void keptErrorPosition() {
        Script.refused("there was none", "begin(0): 0; text('r0'): 2; run(0): 1; text('rr'): 2", "errorPosition(): !NoSuchElement");
        Script.check("the last text that was no program", "begin(0): 0; text('r0q'): 3; run(0): !IllegalArgument; errorPosition(): 2; "
                + "text('q'): 1; errorPosition(): 2; run(0): !IllegalArgument; errorPosition(): 0; errorPosition(): 0");
        Script.check("a program leaves the error position", "begin(0): 0; text('r0q'): 3; run(0): !IllegalArgument; text('r0'): 2; "
                + "run(0): 1; run(0): 0; errorPosition(): 2");
        Script.check("too many operations leave the error position", "begin(0): 0; text('rq'): 2; run(0): !IllegalArgument; text('"
                + TWENTY_READS + "'): 59; run(0): 20; text('r0'): 2; run(0): !UnsupportedOperation; errorPosition(): 1");
        Script.check("reset, snapshot and restore leave the error position", "begin(0): 0; snapshot(): 1; text('rq'): 2; "
                + "run(0): !IllegalArgument; reset(1): 2; errorPosition(): 1; restore(): 1; errorPosition(): 1; snapshot(): 1; "
                + "errorPosition(): 1");
        Script.check("the error position 0 is one", "begin(0): 0; text('q'): 1; run(0): !IllegalArgument; errorPosition(): 0");
        Script.check("the error position 60 is the greatest", "begin(0): 0; text('" + TWENTY_READS + " '): 60; run(0): !IllegalArgument; "
                + "errorPosition(): 60");
    }
}
