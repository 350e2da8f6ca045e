import java.util.function.LongSupplier;

/** Counts the answers of one test that are not the due ones. */
final class Check {
    private int wrong = 0;

    void due(String call, long got, long want) {
        if (got != want) {
            wrong++;
            System.out.println(call + " answered " + got + ", due is " + want);
        }
    }

    void due(String call, String got, String want) {
        if (!got.equals(want)) {
            wrong++;
            System.out.println(call + " answered " + got + ", due is " + want);
        }
    }

    /** The call must answer, and with what is due. */
    void answers(String call, LongSupplier made, long want) {
        try {
            due(call, made.getAsLong(), want);
        } catch (RuntimeException thrown) {
            wrong++;
            System.out.println(call + " threw " + thrown + ", due is " + want);
        }
    }

    void takes(String call, Runnable made) {
        answers(call, () -> {
            made.run();
            return 0;
        }, 0);
    }

    /** The call must throw IllegalArgumentException, and that very class. */
    void illegal(String call, LongSupplier made) {
        try {
            long got = made.getAsLong();
            wrong++;
            System.out.println(call + " answered " + got + ", due is IllegalArgumentException");
        } catch (RuntimeException thrown) {
            due(call, thrown.getClass().getName(), "java.lang.IllegalArgumentException");
        }
    }

    void illegalRun(String call, Runnable made) {
        illegal(call, () -> {
            made.run();
            return 0;
        });
    }

    void end() {
        System.out.println(wrong == 0 ? "all answers are as due" : wrong + " answers are not as due");
        if (wrong != 0) {
            System.exit(1);
        }
    }
}
