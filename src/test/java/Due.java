/** Counts answers that are not as due, and ends the test with exit code 1 if there was one. */
final class Due {
    private int wrong;
    private int looked;
    private String part = "";

    void part(String name) {
        part = name;
    }

    void is(String call, long got, long want) {
        looked++;
        if (got != want) {
            wrong++;
            System.out.println(part + ": " + call + " answered " + got + ", due is " + want);
        }
    }

    void holds(String what, boolean holds) {
        looked++;
        if (!holds) {
            wrong++;
            System.out.println(part + ": " + what + " does not hold");
        }
    }

    int looked() {
        return looked;
    }

    void end() {
        System.out.println(looked + " looked at, " + wrong + " wrong");
        if (wrong != 0) {
            System.exit(1);
        }
    }
}
