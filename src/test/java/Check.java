/** What the tests of the project share: comparing answers, expecting exceptions, and the end. */
final class Check {
    interface Call {
        void run();
    }

    private static int wrong = 0;

    private Check() {
    }

    static void due(String call, long want, long got) {
        if (got != want) {
            wrong++;
            System.out.println(call + " answered " + got + ", due is " + want);
        }
    }

    static void due(String call, boolean want, boolean got) {
        due(call, want ? 1 : 0, got ? 1 : 0);
    }

    static void out(String call, Call run) {
        thrown(call, IndexOutOfBoundsException.class, run);
    }

    static void argument(String call, Call run) {
        thrown(call, IllegalArgumentException.class, run);
    }

    static void state(String call, Call run) {
        thrown(call, IllegalStateException.class, run);
    }

    static void unsupported(String call, Call run) {
        thrown(call, UnsupportedOperationException.class, run);
    }

    static void thrown(String call, Class<? extends RuntimeException> want, Call run) {
        Class<?> got = null;
        try {
            run.run();
        } catch (RuntimeException e) {
            got = e.getClass();
        }
        if (got != want) {
            wrong++;
            System.out.println(call + " threw " + got + ", due is " + want);
        }
    }

    /** Ends the test: with exit code 1 if an answer was not the one that was due. */
    static void end() {
        System.out.println(wrong == 0 ? "all answers are as due" : wrong + " answers are not as due");
        if (wrong != 0) {
            System.exit(1);
        }
    }
}
