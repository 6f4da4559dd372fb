/** Promises 10 to 12: append, run, errorPosition. */
public final class ProgramsTest {
    public static void main(String[] args) {
        append();
        run();
        endOfProgram();
        wrongRuns();
        errorPositions();
        programs();
        Script.end();
    }

    private static void append() {
        Script.check("promise 10: codes", """
                append(31): throws.IllegalArgumentException; append(127): throws.IllegalArgumentException;
                append(65535): throws.IllegalArgumentException; append(0): throws.IllegalArgumentException;
                append(32): 1; append(126): 2""");
        Script.check("promise 10: at most 60", "text('" + "r".repeat(60) + "'): 60", """
                append(114): throws.IllegalStateException; append(31): throws.IllegalArgumentException; begin(0): 0;
                run(0): throws.IllegalArgumentException; errorPosition(): 1; append(99): 1""");
    }

    private static void run() {
        Script.check("promise 11: operations", """
                begin(0): 0; text('w0=12 w1=-3 a0+4 a1-0005 r1'): 27; run(0): 5; transaction(0, 0): 0; transaction(0, 4): 5;
                operation(0, 0, 0): 1; operation(0, 0, 1): 0; operation(0, 0, 2): 12; operation(0, 1, 2): -3;
                operation(0, 2, 0): 2; operation(0, 2, 2): 4; operation(0, 2, 3): 12; operation(0, 3, 2): -5;
                operation(0, 3, 3): -3; operation(0, 4, 0): 0; operation(0, 4, 1): 1; operation(0, 4, 2): 0;
                operation(0, 4, 3): -8; run(0): 0; transaction(0, 4): 5; append(99): 1""");
        Script.check("promise 11: until one aborts", """
                begin(0): 0; begin(0): 1; read(1, 3): 0; text('w0=1 a3+1 r2 c'): 14; run(0): 2; transaction(0, 0): 3;
                transaction(0, 4): 2; total(6): 1; event(5, 0): 6; event(5, 2): 3; versionCount(0): 1;
                errorPosition(): throws.NoSuchElementException""");
        Script.check("promise 11: the last operation aborts, and then no end is done", """
                begin(0): 0; begin(0): 1; read(1, 3): 0; text('w3=1 x'): 6; run(0): 1; transaction(0, 3): 1; total(6): 1""");
    }

    private static void endOfProgram() {
        Script.check("promise 11: commit", """
                begin(0): 0; begin(0): 1; text('w0=9'): 4; run(0): 1; text('r0 c'): 4; run(1): 1; transaction(1, 0): 1;
                text('c'): 1; run(0): 0; transaction(0, 0): 2; transaction(1, 0): 2; event(6, 0): 5""");
        Script.check("promise 11: abort", """
                begin(0): 0; begin(0): 1; text('w0=9'): 4; run(0): 1; read(1, 0): 9; text('r0 x'): 4; run(0): 1;
                transaction(0, 0): 3; transaction(1, 0): 3; event(5, 0): 6; event(5, 1): 0; event(5, 2): -1;
                event(6, 0): 7; restartNext(): 0; transaction(0, 4): 2; text('x'): 1; run(0): 0; transaction(0, 3): 2""");
    }

    private static void wrongRuns() {
        Script.check("promise 11: the first two exceptions leave the buffer", """
                begin(0): 0; begin(0): 1; abort(0): 1; text('q'): 1; run(2): throws.IndexOutOfBoundsException;
                run(-1): throws.IndexOutOfBoundsException; run(0): throws.IllegalStateException;
                errorPosition(): throws.NoSuchElementException; append(32): 2; run(1): throws.IllegalArgumentException;
                append(99): 1""");
        Script.check("promise 11: at most 20 operations", """
                begin(0): 0; text('r0 r0 r0 r0 r0 r0 r0 r0 r0 r0 r0 r0 r0 r0 r0 r0 r0 r0 r0 r0'): 59; run(0): 20;
                text('r0'): 2; run(0): throws.UnsupportedOperationException; append(120): 1; run(0): 0;
                transaction(0, 0): 3; begin(0): 1; read(1, 0): 0;
                text('r0 r0 r0 r0 r0 r0 r0 r0 r0 r0 r0 r0 r0 r0 r0 r0 r0 r0 r0 r0'): 59;
                run(1): throws.UnsupportedOperationException; transaction(1, 4): 1; transaction(1, 0): 0;
                text('r0 r0 r0 r0 r0 r0 r0 r0 r0 r0 r0 r0 r0 r0 r0 r0 r0 r0 r0 c'): 58; run(1): 19;
                transaction(1, 4): 20; transaction(1, 0): 2; errorPosition(): throws.NoSuchElementException""");
        Script.check("promise 11: no program goes before too many operations", """
                begin(0): 0; text('r0 r0 r0 r0 r0 r0 r0 r0 r0 r0 r0 r0 r0 r0 r0 r0 r0 r0 r0 r0'): 59; run(0): 20;
                text('r0 r'): 4; run(0): throws.IllegalArgumentException; errorPosition(): 4; transaction(0, 4): 20""");
    }

    private static void errorPositions() {
        Script.check("promise 12: it is kept", """
                errorPosition(): throws.NoSuchElementException; begin(0): 0; text('r0r'): 3;
                run(0): throws.IllegalArgumentException; errorPosition(): 2; errorPosition(): 2; text('r0'): 2; run(0): 1;
                errorPosition(): 2; text(' '): 1; run(0): throws.IllegalArgumentException; errorPosition(): 0;
                transaction(0, 4): 1; snapshot(): 1; text('cc'): 2; run(0): throws.IllegalArgumentException; restore(): 1;
                errorPosition(): 1""");
        expectError(" r0", 0);
        expectError("r0 ", 3);
        expectError("r0  r1", 3);
        expectError("r0 c ", 4);
        expectError("r0 cx", 4);
        expectError("c r0", 1);
        expectError("x ", 1);
        expectError("C", 0);
        expectError("r", 1);
        expectError("r8", 1);
        expectError("r00", 2);
        expectError("r 0", 1);
        expectError("w", 1);
        expectError("w9=1", 1);
        expectError("w0", 2);
        expectError("w0 =1", 2);
        expectError("w0=", 3);
        expectError("w0=-", 4);
        expectError("w0=+1", 3);
        expectError("w0=--1", 4);
        expectError("w0=12345", 7);
        expectError("w0=-12345", 8);
        expectError("w0=1-", 4);
        expectError("w0=1 ", 5);
        expectError("a", 1);
        expectError("a7", 2);
        expectError("a7=1", 2);
        expectError("a7+", 3);
        expectError("a7+-1", 3);
        expectError("a7--1", 3);
        expectError("a7-99999", 7);
        expectError("a7+1,", 4);
        expectError("r0 q", 3);
        expectError("r0 r1 r2 r3 r4 r5 r6 r7 r0 r1 r2 r3 r4 r5 r6 r7 r0 r1 r2 r3 ", 60);
    }

    private static void expectError(String text, int position) {
        Script.check("error in '" + text + "'", "begin(0): 0; text('" + text + "'): " + text.length()
                + "; run(0): throws.IllegalArgumentException; errorPosition(): " + position
                + "; transaction(0, 4): 0; transaction(0, 0): 0; append(99): 1");
    }

    private static void programs() {
        Script.check("leading zeros and -0", """
                begin(0): 0; text('w0=0007 w1=-0 w2=-9999 a2+9999 a0-0 a0+0000'): 43; run(0): 6; operation(0, 0, 2): 7;
                operation(0, 1, 2): 0; operation(0, 2, 2): -9999; operation(0, 3, 2): 9999; operation(0, 4, 2): 0;
                version(2, 1, 2): 0""");
        Script.check("a program of 60 characters", """
                begin(0): 0; text('w0=-1234 w1=-1234 w2=-1234 w3=-1234 w4=-1234 w5=-1234 r6 r7 '): 60;
                run(0): throws.IllegalArgumentException; errorPosition(): 60;
                text('w0=-1234 w1=-1234 w2=-1234 w3=-1234 w4=-1234 w5=-1234 w6=1 c'): 60; run(0): 7; transaction(0, 0): 2;
                valueAt(5, 1): -1234; valueAt(6, 1): 1""");
    }
}
