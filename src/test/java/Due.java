/** Compares answers with those that are due, prints each that differs, and ends the test. */
final class Due {
    private String promise = "";
    private int calls = 0;
    private int wrong = 0;

    void promise(String name) {
        promise = name;
    }

    void is(String call, long want, long got) {
        calls++;
        if (got != want) {
            wrong++;
            System.out.println(promise + ": " + call + " answered " + got + ", due is " + want);
        }
    }

    void is(String call, boolean want, boolean got) {
        is(call, want ? 1 : 0, got ? 1 : 0);
    }

    int calls() {
        return calls;
    }

    int wrong() {
        return wrong;
    }

    void end() {
        System.out.println(calls + " answers looked at, " + wrong + " not as due");
        if (wrong != 0 || calls == 0) {
            System.exit(1);
        }
    }
}
