import java.util.HashMap;
import java.util.Map;

/** Compares answers with those that are due; a test ends with exit code 1 if one was wrong. */
final class Due {
    private static final int TOLD_OF_A_PART = 5;

    private final String test;
    private final Map<String, Integer> wrongOfParts = new HashMap<>();
    private String part = "";
    private int checked = 0;
    private int wrong = 0;

    Due(String test) {
        this.test = test;
    }

    /** Names the promise that the checks after it are about. */
    void promise(String name) {
        part = name;
    }

    /** Names the sentence of the document that the checks after it are about; a sentence of a promise begins with its number. */
    void sentence(String words) {
        part = "'" + words + "'";
    }

    void same(String call, long got, long want) {
        checked++;
        if (got != want) {
            tell(call + " answered " + got + ", due is " + want);
        }
    }

    void same(String call, String got, String want) {
        checked++;
        if (!got.equals(want)) {
            tell(call + "\n   is  " + got + "\n   due " + want);
        }
    }

    void sameFloat(String call, float got, float want) {
        checked++;
        if (Float.floatToIntBits(got) != Float.floatToIntBits(want)) {
            tell(call + " answered " + got + ", due is " + want);
        }
    }

    void end() {
        System.out.println(test + ": " + checked + " checks, " + wrong + " wrong");
        if (wrong != 0) {
            System.exit(1);
        }
    }

    private void tell(String what) {
        wrong++;
        // One broken promise may make thousands of checks wrong, and must not hide what else is wrong.
        if (wrongOfParts.merge(part, 1, Integer::sum) <= TOLD_OF_A_PART) {
            System.out.println(test + ", " + part + ": " + what);
        }
    }
}
