/** Compares answers with those that are due; a test ends with exit code 1 if one was wrong. */
final class Due {
    private final String test;
    private String part = "";
    private int checked = 0;
    private int wrong = 0;

    Due(String test) {
        this.test = test;
    }

    /** Names the promise that the checks after it are about. */
    void promise(String name) {
        part = name;
    }

    void same(String call, long got, long want) {
        checked++;
        if (got != want) {
            tell(call + " answered " + got + ", due is " + want);
        }
    }

    void same(String call, String got, String want) {
        checked++;
        if (!got.equals(want)) {
            tell(call + "\n   is  " + got + "\n   due " + want);
        }
    }

    void sameFloat(String call, float got, float want) {
        checked++;
        if (Float.floatToIntBits(got) != Float.floatToIntBits(want)) {
            tell(call + " answered " + got + ", due is " + want);
        }
    }

    void end() {
        System.out.println(test + ": " + checked + " checks, " + wrong + " wrong");
        if (wrong != 0) {
            System.exit(1);
        }
    }

    private void tell(String what) {
        wrong++;
        if (wrong <= 50) {
            System.out.println(test + ", " + part + ": " + what);
        }
    }
}
