/** What is due of each call; tells the others and ends the test with 1 if there was one. */
final class Due {
    private String part = "";
    private int calls = 0;
    private int wrong = 0;

    void part(String name) {
        part = name;
    }

    void is(String call, long got, long want) {
        calls++;
        if (got != want) {
            wrong++;
            System.out.println(part + ": " + call + " answered " + got + ", due is " + want);
        }
    }

    void is(String call, double got, double want) {
        calls++;
        // not by ==, as 0.0 and -0.0 are two answers
        if (Double.compare(got, want) != 0) {
            wrong++;
            System.out.println(part + ": " + call + " answered " + got + ", due is " + want);
        }
    }

    /** Something that no single answer tells. */
    void fault(String what) {
        calls++;
        wrong++;
        System.out.println(part + ": " + what);
    }

    int calls() {
        return calls;
    }

    boolean anyWrong() {
        return wrong != 0;
    }

    void end() {
        System.out.println(wrong == 0
                ? "all " + calls + " answers are as due"
                : wrong + " of " + calls + " answers are not as due");
        if (wrong != 0) {
            System.exit(1);
        }
    }
}
