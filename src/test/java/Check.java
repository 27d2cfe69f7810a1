/** Counts the answers that are not the ones due, and ends the test by them. */
final class Check {
    private final String test;
    private int checks;
    private int wrong;

    Check(String test) {
        this.test = test;
    }

    void due(String call, long got, long want) {
        checks++;
        if (got != want) {
            wrong++;
            if (wrong <= 50) {
                System.out.println(test + ": " + call + " answered " + got + ", due is " + want);
            }
        }
    }

    void due(String call, boolean got, boolean want) {
        due(call, got ? 1 : 0, want ? 1 : 0);
    }

    void yes(String what, boolean got) {
        due(what, got, true);
    }

    void finish() {
        System.out.println(test + ": " + checks + " answers looked at, " + wrong + " wrong");
        if (wrong != 0 || checks == 0) {
            System.exit(1);
        }
    }
}
