/** Compares answers with those that are due, prints the wrong ones and ends with exit code 1 if there was one. */
final class Check {
    private static final int MOST_PRINTED = 50;

    private final String name;
    private int asked = 0;
    private int wrong = 0;

    Check(String name) {
        this.name = name;
    }

    void due(String call, long got, long want) {
        asked++;
        if (got != want) {
            fault(call + " answered " + got + ", due is " + want);
        }
    }

    void fault(String text) {
        wrong++;
        if (wrong <= MOST_PRINTED) {
            System.out.println(name + ": " + text);
        }
    }

    void end() {
        System.out.println(name + ": " + asked + " answers looked at, " + wrong + " faults");
        if (wrong != 0 || asked == 0) {
            System.exit(1);
        }
    }
}
