/** The two examples at the end of the document's description. */
public final class ExamplesTest {
    public static void main(String[] args) {
        Script.check("example 1", """
                begin(1): 0; begin(2): 1; write(0, 3, 5): 0; add(1, 3, 2): 7; dependencies(1): 1; commit(1): false;
                transaction(1, 0): 1; commit(0): true; transaction(1, 0): 2; valueAt(3, 9): 7; versionCount(3): 3;
                collect(): 2; check(): 0""");
        Script.check("example 2", """
                reset(1): 2; begin(0): 0; begin(4): 1; write(1, 0, 9): 0; write(0, 0, 4): 1; read(0, 0): -2147483648;
                transaction(0, 0): 3; abort(1): 1; restartNext(): 1; transaction(1, 1): 3; version(0, 1, 2): 9; total(6): 2;
                abortShare(): 0.6666666666666666""");
        Script.end();
    }
}
