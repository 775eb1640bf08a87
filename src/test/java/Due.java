/** Compares answers with those that are due, and ends a test. */
final class Due {
    private int wrong;

    void same(String what, long got, long want) {
        if (got != want) {
            tell(what, String.valueOf(got), String.valueOf(want));
        }
    }

    void same(String what, double got, double want) {
        if (got != want) {
            tell(what, String.valueOf(got), String.valueOf(want));
        }
    }

    void same(String what, boolean got, boolean want) {
        if (got != want) {
            tell(what, String.valueOf(got), String.valueOf(want));
        }
    }

    boolean hasWrong() {
        return wrong != 0;
    }

    void end() {
        if (wrong != 0) {
            System.out.println(wrong + " answers are not as due");
            System.exit(1);
        }
    }

    private void tell(String what, String got, String want) {
        wrong++;
        System.out.println(what + " answered " + got + ", due is " + want);
    }
}
