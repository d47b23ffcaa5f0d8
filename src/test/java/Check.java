import java.util.function.IntToLongFunction;

/** Compares answers with those that are due, prints the wrong ones and ends with exit code 1 if there was one. */
final class Check {
    private static final int MOST_PRINTED = 50;

    private final String name;
    private int asked = 0;
    private int wrong = 0;

    Check(String name) {
        this.name = name;
    }

    void due(String call, long got, long want) {
        asked++;
        if (got != want) {
            fault(call + " answered " + got + ", due is " + want);
        }
    }

    /** From least to most the answer at both ends is the one that is due; just outside and far away it is BAD. */
    void range(int least, int most, long want, IntToLongFunction call) {
        range(least, most, want, CampWeek.BAD, call);
    }

    void range(int least, int most, long want, long bad, IntToLongFunction call) {
        due("with " + least, call.applyAsLong(least), want);
        due("with " + most, call.applyAsLong(most), want);
        outside(least, most, bad, call);
    }

    /** Just outside least to most and far away the answer is that one. */
    void outside(int least, int most, long bad, IntToLongFunction call) {
        for (int number : new int[] {least - 1, most + 1, Integer.MIN_VALUE, Integer.MAX_VALUE}) {
            due("with " + number, call.applyAsLong(number), bad);
        }
    }

    void fault(String text) {
        wrong++;
        if (wrong <= MOST_PRINTED) {
            System.out.println(name + ": " + text);
        }
    }

    /** Adds what another one has seen, which must be something. */
    void take(Check other) {
        asked += other.asked;
        wrong += other.wrong;
        if (other.asked == 0) {
            fault(other.name + " looked at no answer");
        }
    }

    void end() {
        System.out.println(name + ": " + asked + " answers looked at, " + wrong + " faults");
        if (wrong != 0 || asked == 0) {
            System.exit(1);
        }
    }
}
