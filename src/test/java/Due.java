/** Compares answers with what is due, prints those that differ and ends the test with exit code 1 if there was one. */
final class Due {
    private String part = "";
    private int wrong = 0;

    void part(String name) {
        part = name;
    }

    void is(String call, long got, long want) {
        if (got != want) {
            wrong++;
            System.out.println(part + ": " + call + " answered " + got + ", due is " + want);
        }
    }

    void holds(String what, boolean holds) {
        if (!holds) {
            wrong++;
            System.out.println(part + ": " + what + " doesn't hold");
        }
    }

    void end() {
        if (wrong != 0) {
            System.exit(1);
        }
    }
}
