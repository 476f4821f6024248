/** Counts the answers that are not the ones due, and ends the test with exit code 1 if there was one. */
final class Expect {
    interface Call {
        long answer();
    }

    interface Question {
        boolean answer();
    }

    private int asked = 0;
    private int wrong = 0;

    void due(String call, long want, Call made) {
        asked++;
        try {
            long got = made.answer();
            if (got != want) {
                report(call, String.valueOf(got), String.valueOf(want));
            }
        } catch (RuntimeException e) {
            report(call, "throws." + e.getClass().getName(), String.valueOf(want));
        }
    }

    void dueTruth(String call, boolean want, Question made) {
        due(call, want ? 1 : 0, () -> made.answer() ? 1 : 0);
    }

    void dueText(String call, String got, String want) {
        asked++;
        if (!got.equals(want)) {
            report(call, got, want);
        }
    }

    /** The class must be the very one: what the machine throws is often a class below it. */
    void fails(String call, Class<? extends RuntimeException> want, Call made) {
        asked++;
        try {
            report(call, String.valueOf(made.answer()), "throws." + want.getName());
        } catch (RuntimeException e) {
            if (e.getClass() != want) {
                report(call, "throws." + e.getClass().getName(), "throws." + want.getName());
            }
        }
    }

    void noIndex(String call, Call made) {
        fails(call, IndexOutOfBoundsException.class, made);
    }

    void badArgument(String call, Call made) {
        fails(call, IllegalArgumentException.class, made);
    }

    void badState(String call, Call made) {
        fails(call, IllegalStateException.class, made);
    }

    void report(String call, String got, String want) {
        wrong++;
        if (wrong <= 50) {
            System.out.println(call + " answered " + got + ", due is " + want);
        }
    }

    int wrongOnes() {
        return wrong;
    }

    void done() {
        System.out.println(asked + " answers, " + wrong + " wrong");
        if (wrong > 0 || asked == 0) {
            System.exit(1);
        }
    }
}
