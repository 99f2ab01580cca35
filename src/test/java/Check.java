import java.util.function.IntSupplier;

/** Counts the answers of a test program and prints those that are not the ones that are due. */
final class Check {
    private int right = 0;
    private int wrong = 0;
    private String part = "";

    void begin(String newPart) {
        part = newPart;
    }

    void due(String call, long got, long want) {
        if (got == want) {
            right++;
        } else {
            miss(call + " answered " + got + ", due is " + want);
        }
    }

    void due(String call, boolean got, boolean want) {
        due(call, got ? 1 : 0, want ? 1 : 0);
    }

    /** The call must throw IndexOutOfBoundsException itself, not a class below it that the machine throws. */
    void outOfBounds(String call, IntSupplier run) {
        try {
            int got = run.getAsInt();
            miss(call + " answered " + got + ", due is an IndexOutOfBoundsException");
        } catch (RuntimeException thrown) {
            due(call + " throws " + thrown.getClass().getName(),
                thrown.getClass() == IndexOutOfBoundsException.class, true);
        }
    }

    void miss(String text) {
        wrong++;
        if (wrong <= 50) {
            System.out.println(part + ": " + text);
        }
    }

    /** Ends the program with exit code 1 if an answer was wrong. */
    void finish() {
        System.out.println(right + " answers as due, " + wrong + " not");
        if (wrong != 0 || right == 0) {
            System.exit(1);
        }
    }
}
