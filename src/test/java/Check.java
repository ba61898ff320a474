/** What the tests of the project share: comparing answers, expecting exceptions, and the end. */
final class Check {
    interface Call {
        void run();
    }

    private static int wrong = 0;

    private Check() {
    }

    /** Tests one sentence of the document, quoted, and says so if it is broken. */
    static void sentence(String where, String words, Call test) {
        int before = wrong;
        try {
            test.run();
        } catch (RuntimeException e) {
            wrong++;
            System.out.println("a call threw " + e);
        }
        if (wrong != before) {
            System.out.println("BROKEN, " + where + ": " + words);
        }
    }

    static void due(String call, long want, long got) {
        if (got != want) {
            wrong++;
            System.out.println(call + " answered " + got + ", due is " + want);
        }
    }

    static void due(String call, boolean want, boolean got) {
        due(call, want ? 1 : 0, got ? 1 : 0);
    }

    static void due(String call, String want, String got) {
        if (!got.equals(want)) {
            wrong++;
            System.out.println(call + " answered " + got + ", due is " + want);
        }
    }

    static void out(String call, Call run) {
        thrown(call, IndexOutOfBoundsException.class, run);
    }

    static void argument(String call, Call run) {
        thrown(call, IllegalArgumentException.class, run);
    }

    static void state(String call, Call run) {
        thrown(call, IllegalStateException.class, run);
    }

    static void unsupported(String call, Call run) {
        thrown(call, UnsupportedOperationException.class, run);
    }

    static void thrown(String call, Class<? extends RuntimeException> want, Call run) {
        Class<?> got = null;
        try {
            run.run();
        } catch (RuntimeException e) {
            got = e.getClass();
            // Rule 7 of the language: only a throw statement of the program's own may throw.
            due(call + " threw from", "SlideStage", e.getStackTrace()[0].getClassName());
        }
        if (got != want) {
            wrong++;
            System.out.println(call + " threw " + got + ", due is " + want);
        }
    }

    /** Numbers that are not least .. greatest: next to it, far off, and alike in their low bits. */
    static int[] beyond(int least, int greatest) {
        return new int[] {
            least - 1, greatest + 1, greatest + 256, Integer.MIN_VALUE, Integer.MIN_VALUE + greatest + 1,
            Integer.MAX_VALUE
        };
    }

    /** Ends the test: with exit code 1 if an answer was not the one that was due. */
    static void end() {
        System.out.println(wrong == 0 ? "all answers are as due" : wrong + " answers are not as due");
        if (wrong != 0) {
            System.exit(1);
        }
    }
}
